/** Promise 2, and the numbers with their checks. */
public final class OrderTest {
    private static final Check CHECK = new Check();

    public static void main(String[] args) {
        paysIn();
        refusesWhatIsOutside();
        takesTheEdges();
        numbersThreeHundred();
        knowsNoWrongNumber();
        CHECK.end();
    }

    private static void paysIn() {
        OrderMoney x = new OrderMoney();
        CHECK.same("first", x.order(3, 700, 10, 2, 5), 12);
        CHECK.same("second", x.order(3, 50, 10, 0, 5), 24);
        CHECK.same("till(3)", x.till(3), 750);
        CHECK.same("till(2)", x.till(2), 0);
        CHECK.same("all(0)", x.all(0), 750);
        CHECK.same("all(5)", x.all(5), 0);
        CHECK.same("state", x.about(12, 0), 0);
        CHECK.same("cents", x.about(12, 1), 700);
        CHECK.same("paid in at", x.about(12, 2), 3);
    }

    private static void refusesWhatIsOutside() {
        OrderMoney x = new OrderMoney();
        long[] before = Watch.row(x);
        CHECK.same("office -1", x.order(-1, 1, 0, 0, 0), OrderMoney.OUTSIDE);
        CHECK.same("office 8", x.order(8, 1, 0, 0, 0), OrderMoney.OUTSIDE);
        CHECK.same("office least", x.order(Integer.MIN_VALUE, 1, 0, 0, 0), OrderMoney.OUTSIDE);
        CHECK.same("cents 0", x.order(0, 0, 0, 0, 0), OrderMoney.OUTSIDE);
        CHECK.same("cents -1", x.order(0, -1, 0, 0, 0), OrderMoney.OUTSIDE);
        CHECK.same("cents 500001", x.order(0, 500001, 0, 0, 0), OrderMoney.OUTSIDE);
        CHECK.same("cents most", x.order(0, Long.MAX_VALUE, 0, 0, 0), OrderMoney.OUTSIDE);
        CHECK.same("cents 2^32 + 1", x.order(0, 4294967297L, 0, 0, 0), OrderMoney.OUTSIDE);
        CHECK.same("until -1", x.order(0, 1, -1, 0, 0), OrderMoney.OUTSIDE);
        CHECK.same("currency -1", x.order(0, 1, 0, -1, 0), OrderMoney.OUTSIDE);
        CHECK.same("currency 4", x.order(0, 1, 0, 4, 0), OrderMoney.OUTSIDE);
        CHECK.same("proof -1", x.order(0, 1, 0, 0, -1), OrderMoney.OUTSIDE);
        CHECK.holds("refused orders change nothing", Watch.isSame(before, x));
        CHECK.same("the first number is still free", x.order(0, 1, 0, 0, 0), 12);
    }

    private static void takesTheEdges() {
        OrderMoney x = new OrderMoney();
        CHECK.same("least", x.order(0, 1, 0, 0, 0), 12);
        CHECK.same("most", x.order(7, 500000, Long.MAX_VALUE, 3, Integer.MAX_VALUE), 24);
        CHECK.same("till(7)", x.till(7), 500000);
    }

    private static void numbersThreeHundred() {
        OrderMoney x = new OrderMoney();
        for (int n = 1; n <= 300; n++) {
            CHECK.same("order " + n, x.order(n % 8, n, 5, n % 4, n), Watch.numberOf(n));
        }
        CHECK.same("digits 2 9 9", Watch.numberOf(299), 2993);
        CHECK.same("one more", x.order(0, 1, 0, 0, 0), OrderMoney.ROOM);
        CHECK.same("one more, outside", x.order(8, 1, 0, 0, 0), OrderMoney.OUTSIDE);
        CHECK.same("all(0)", x.all(0), 300 * 301 / 2);
        for (int n = 1; n <= 300; n++) {
            CHECK.same("cents of " + n, x.about(Watch.numberOf(n), 1), n);
        }
    }

    private static void knowsNoWrongNumber() {
        OrderMoney x = new OrderMoney();
        x.order(0, 1, 0, 0, 0);
        x.order(0, 1, 0, 0, 0);
        for (long number = -100; number < 5000; number++) {
            long due = number == 12 || number == 24 ? 0 : OrderMoney.UNKNOWN;
            CHECK.same("about(" + number + ", 0)", x.about(number, 0), due);
        }
        long[] far = {Long.MIN_VALUE, Long.MAX_VALUE, 4294967296L + 12, 42949672960L + 12, -12};
        for (long number : far) {
            CHECK.same("about(" + number + ", 0)", x.about(number, 0), OrderMoney.UNKNOWN);
        }
    }
}
