/** Promise 3: the refusals, the steps in their order, the limit of a day, suspect payments. */
public final class PayTest {
    private static final Check CHECK = new Check();
    private static final long DAY = 86400;

    public static void main(String[] args) {
        paysOnce();
        refusesInOrder();
        keepsTheTime();
        looksInOrderOfSteps();
        keepsTheLimitOfADay();
        forgetsADayWithAPaymentOnAnother();
        aPaymentThatIsUndoneIsNoLatestOne();
        paysTheSumByTheRate();
        countsSuspectPayments();
        suspectsOnlyWhatAnOfficeKnows();
        CHECK.end();
    }

    private static void paysOnce() {
        OrderMoney x = new OrderMoney();
        x.order(0, 100, 50, 0, 7);
        x.set(0, 1, 1000);
        CHECK.same("pay", x.pay(1, 12, 7, 50), 1);
        CHECK.same("state", x.about(12, 0), 1);
        CHECK.same("paid out at", x.about(12, 3), 1);
        CHECK.same("paid in at", x.about(12, 2), 0);
        CHECK.same("till(1)", x.till(1), 900);
        CHECK.same("till(0)", x.till(0), 100);
        CHECK.same("all(1)", x.all(1), 100);
        for (int office = 0; office < 8; office++) {
            CHECK.same("once more", x.pay(office, 12, 7, 50), OrderMoney.STATE);
        }
        CHECK.same("all(1) still", x.all(1), 100);
        CHECK.same("all(8)", x.all(8), 0);
    }

    private static void refusesInOrder() {
        OrderMoney x = new OrderMoney();
        x.order(0, 100, 50, 0, 7);
        long[] before = Watch.row(x);
        CHECK.same("no such number, all else outside", x.pay(9, 13, -1, -1), OrderMoney.UNKNOWN);
        CHECK.same("office 8", x.pay(8, 12, 7, 10), OrderMoney.OUTSIDE);
        CHECK.same("office -1", x.pay(-1, 12, 7, 10), OrderMoney.OUTSIDE);
        CHECK.same("t -1", x.pay(0, 12, 7, -1), OrderMoney.OUTSIDE);
        CHECK.same("office 8, late", x.pay(8, 12, 7, 51), OrderMoney.OUTSIDE);
        CHECK.same("late, proof wrong", x.pay(0, 12, 8, 51), OrderMoney.STATE);
        CHECK.same("another proof", x.pay(0, 12, 8, 10), OrderMoney.WRONG);
        CHECK.same("proof below 0", x.pay(0, 12, -1, 10), OrderMoney.WRONG);
        CHECK.same("an empty till", x.pay(1, 12, 7, 10), OrderMoney.POOR);
        CHECK.holds("no payment, no change", Watch.isSame(before, x));
    }

    private static void keepsTheTime() {
        OrderMoney x = new OrderMoney();
        x.order(0, 1, 0, 0, 0);
        x.order(0, 1, Long.MAX_VALUE, 0, 0);
        CHECK.same("above until", x.pay(0, 12, 0, 1), OrderMoney.STATE);
        CHECK.same("at until", x.pay(0, 12, 0, 0), 1);
        CHECK.same("the latest t", x.pay(0, 24, 0, Long.MAX_VALUE), 1);
    }

    private static void looksInOrderOfSteps() {
        OrderMoney x = new OrderMoney();
        x.order(0, 100, 50, 0, 7);
        x.set(1, 1, 99);
        CHECK.same("wrong, limited, poor", x.pay(1, 12, 8, 10), OrderMoney.WRONG);
        CHECK.same("limited, poor", x.pay(1, 12, 7, 10), OrderMoney.LIMITED);
        x.set(1, 1, 100);
        CHECK.same("poor", x.pay(1, 12, 7, 10), OrderMoney.POOR);
        x.set(0, 1, 99);
        CHECK.same("poor by one", x.pay(1, 12, 7, 10), OrderMoney.POOR);
        CHECK.same("till(1)", x.till(1), 99);
        x.set(0, 1, 1);
        CHECK.same("just enough", x.pay(1, 12, 7, 10), 1);
        CHECK.same("till(1) is empty", x.till(1), 0);
        CHECK.same("all(6) counts FAILED alone", x.all(6), 0);
    }

    private static void keepsTheLimitOfADay() {
        OrderMoney x = tenOrders(100);
        x.set(1, 0, 250);
        CHECK.same("100", x.pay(0, 12, 1, DAY), 1);
        CHECK.same("200", x.pay(0, 24, 1, DAY + 1), 1);
        CHECK.same("300", x.pay(0, 36, 1, DAY + 2), OrderMoney.LIMITED);
        CHECK.same("another office has its own", x.pay(1, 36, 1, DAY + 2), OrderMoney.POOR);
        x.set(1, 0, 300);
        CHECK.same("300 of 300, the day's last second", x.pay(0, 36, 1, 2 * DAY - 1), 1);
        CHECK.same("400 of 300", x.pay(0, 48, 1, 2 * DAY - 1), OrderMoney.LIMITED);
        CHECK.same("the next day", x.pay(0, 48, 1, 2 * DAY), 1);
        x.set(1, 0, 50);
        CHECK.same("a limit below what was paid", x.pay(0, 50, 1, 2 * DAY), OrderMoney.LIMITED);
        x.set(1, 0, -1);
        CHECK.same("no limit", x.pay(0, 50, 1, 2 * DAY), 1);
        x.set(1, 0, 300);
        CHECK.same("what was paid without a limit counts", x.pay(0, 62, 1, 2 * DAY), 1);
        CHECK.same("and is full then", x.pay(0, 74, 1, 2 * DAY), OrderMoney.LIMITED);
        x.set(1, 0, 0);
        CHECK.same("a limit of 0", x.pay(0, 74, 1, 3 * DAY), OrderMoney.LIMITED);
    }

    private static void forgetsADayWithAPaymentOnAnother() {
        OrderMoney x = tenOrders(100);
        x.set(1, 0, 100);
        CHECK.same("day 5", x.pay(0, 12, 1, 5 * DAY), 1);
        CHECK.same("day 5 is full", x.pay(0, 24, 1, 5 * DAY), OrderMoney.LIMITED);
        CHECK.same("day 4, before it", x.pay(0, 24, 1, 4 * DAY), 1);
        CHECK.same("day 4 is full", x.pay(0, 36, 1, 4 * DAY), OrderMoney.LIMITED);
        CHECK.same("day 5 counts from 0", x.pay(0, 36, 1, 5 * DAY), 1);
        CHECK.same("day 5 is full again", x.pay(0, 48, 1, 5 * DAY), OrderMoney.LIMITED);
    }

    private static void aPaymentThatIsUndoneIsNoLatestOne() {
        OrderMoney x = tenOrders(100);
        x.set(1, 0, 100);
        CHECK.same("day 0", x.pay(0, 12, 1, 0), 1);
        x.fails(0, 5);
        CHECK.same("day 1 fails", x.pay(0, 24, 1, DAY), OrderMoney.FAILED);
        CHECK.same("day 1 with a wrong proof", x.pay(0, 24, 2, DAY), OrderMoney.WRONG);
        CHECK.same("day 0 is still known", x.pay(0, 24, 1, 0), OrderMoney.LIMITED);
        x.fails(0, 5);
        CHECK.same("day 2 fails", x.pay(0, 24, 1, 2 * DAY), OrderMoney.FAILED);
        CHECK.same("and counts nothing", x.pay(0, 24, 1, 2 * DAY), 1);
    }

    private static void paysTheSumByTheRate() {
        OrderMoney x = new OrderMoney();
        x.order(0, 1999, 50, 1, 0);
        x.order(0, 1, 50, 2, 0);
        x.set(2, 1, 1500);
        x.set(2, 2, 1);
        x.set(1, 0, 2997);
        CHECK.same("2998 of 1999 cents, limited", x.pay(0, 12, 0, 1), OrderMoney.LIMITED);
        x.set(1, 0, 2998);
        CHECK.same("2000 cents are less", x.pay(0, 12, 0, 1), OrderMoney.POOR);
        x.set(0, 0, 1000);
        CHECK.same("2998 of 3000", x.pay(0, 12, 0, 1), 1);
        CHECK.same("till(0)", x.till(0), 2);
        CHECK.same("all(1)", x.all(1), 2998);
        CHECK.same("a sum of 0 at a full limit", x.pay(0, 24, 0, 1), 1);
        CHECK.same("till(0) still", x.till(0), 2);
        CHECK.same("the tills balance", Watch.balance(x), 0);
    }

    private static void countsSuspectPayments() {
        OrderMoney x = tenOrders(1);
        x.order(0, 1, 9 * DAY, 0, 2);
        x.set(0, 1, 100);
        CHECK.same("1st", x.pay(0, 12, 1, 10), 1);
        CHECK.same("2nd", x.pay(0, 24, 1, 10), 1);
        CHECK.same("another proof", x.pay(0, 115, 2, 10), 1);
        CHECK.same("another office", x.pay(1, 36, 1, 10), 1);
        CHECK.same("all(7)", x.all(7), 0);
        x.fails(0, 5);
        CHECK.same("one that fails", x.pay(0, 48, 1, 10), OrderMoney.FAILED);
        CHECK.same("all(7) without it", x.all(7), 0);
        CHECK.same("3rd", x.pay(0, 48, 1, 10), 1);
        CHECK.same("all(7) with the 3rd", x.all(7), 1);
        CHECK.same("4th", x.pay(0, 50, 1, DAY - 1), 1);
        CHECK.same("all(7) with the 4th", x.all(7), 2);
        CHECK.same("the next day", x.pay(0, 62, 1, DAY), 1);
        CHECK.same("all(7) on the next day", x.all(7), 2);
    }

    private static void suspectsOnlyWhatAnOfficeKnows() {
        OrderMoney x = tenOrders(1);
        x.pay(0, 12, 1, 0);
        x.pay(0, 24, 1, 0);
        x.pay(0, 36, 1, DAY);
        x.pay(0, 48, 1, 0);
        CHECK.same("the day counts from 0", x.all(7), 0);
        x.pay(0, 50, 1, 0);
        CHECK.same("the 2nd since", x.all(7), 0);
        x.pay(0, 62, 1, 0);
        CHECK.same("the 3rd since", x.all(7), 1);
    }

    private static OrderMoney tenOrders(long cents) {
        OrderMoney x = new OrderMoney();
        for (int i = 0; i < 10; i++) {
            x.order(0, cents, 9 * DAY, 0, 1);
        }
        return x;
    }
}
