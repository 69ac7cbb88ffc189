/** Promise 13. */
public final class SetTest {
    private static final Check CHECK = new Check();

    public static void main(String[] args) {
        fillsTills();
        setsLimits();
        setsRates();
        CHECK.end();
    }

    private static void fillsTills() {
        OrderMoney x = new OrderMoney();
        CHECK.same("most", x.set(0, 7, 1000000000L), 1);
        CHECK.same("till(7)", x.till(7), 1000000000L);
        CHECK.same("one more than it has", x.set(0, 6, -1), OrderMoney.STATE);
        CHECK.same("above most", x.set(0, 7, 1000000001L), OrderMoney.OUTSIDE);
        CHECK.same("below least", x.set(0, 7, -1000000001L), OrderMoney.OUTSIDE);
        CHECK.same("far above", x.set(0, 7, Long.MAX_VALUE), OrderMoney.OUTSIDE);
        CHECK.same("far below", x.set(0, 7, Long.MIN_VALUE), OrderMoney.OUTSIDE);
        CHECK.same("2^32", x.set(0, 7, 4294967296L), OrderMoney.OUTSIDE);
        CHECK.same("all(5)", x.all(5), 1000000000L);
        CHECK.same("gives all", x.set(0, 7, -1000000000L), 1);
        CHECK.same("all(5) after it", x.all(5), 0);
        CHECK.same("nothing", x.set(0, 7, 0), 1);
        x.order(0, 100, 5, 0, 0);
        CHECK.same("gives an order's cents", x.set(0, 0, -40), 1);
        CHECK.same("till(0)", x.till(0), 60);
        CHECK.same("all(5) below 0", x.all(5), -40);
        CHECK.same("more than it has", x.set(0, 0, -61), OrderMoney.STATE);
        CHECK.same("till(0) still", x.till(0), 60);
        CHECK.same("office -1", x.set(0, -1, 1), OrderMoney.OUTSIDE);
        CHECK.same("office 8", x.set(0, 8, 1), OrderMoney.OUTSIDE);
        CHECK.same("what 3", x.set(3, 0, 1), OrderMoney.OUTSIDE);
        CHECK.same("what -1", x.set(-1, 0, 1), OrderMoney.OUTSIDE);
        CHECK.same("the tills balance", Watch.balance(x), 0);
    }

    private static void setsLimits() {
        OrderMoney x = new OrderMoney();
        x.order(4, 100, 5, 0, 0);
        CHECK.same("limit 99", x.set(1, 4, 99), 1);
        CHECK.same("limit -2", x.set(1, 4, -2), OrderMoney.OUTSIDE);
        CHECK.same("limit above most", x.set(1, 4, 1000000001L), OrderMoney.OUTSIDE);
        CHECK.same("office 8", x.set(1, 8, 5), OrderMoney.OUTSIDE);
        CHECK.same("office -1", x.set(1, -1, 5), OrderMoney.OUTSIDE);
        CHECK.same("99 holds", x.pay(4, 12, 0, 1), OrderMoney.LIMITED);
        CHECK.same("limit 0", x.set(1, 4, 0), 1);
        CHECK.same("0 holds", x.pay(4, 12, 0, 1), OrderMoney.LIMITED);
        CHECK.same("limit most", x.set(1, 4, 1000000000L), 1);
        CHECK.same("till(4)", x.till(4), 100);
        CHECK.same("all(5)", x.all(5), 0);
        x.set(1, 4, 99);
        CHECK.same("no limit", x.set(1, 4, -1), 1);
        CHECK.same("paid", x.pay(4, 12, 0, 1), 1);
    }

    private static void setsRates() {
        OrderMoney x = new OrderMoney();
        for (int currency = 0; currency < 4; currency++) {
            x.order(0, 500000, 5, currency, 0);
        }
        CHECK.same("most", x.set(2, 3, 100000), 1);
        CHECK.same("least", x.set(2, 0, 1), 1);
        CHECK.same("rate 0", x.set(2, 1, 0), OrderMoney.OUTSIDE);
        CHECK.same("rate -1", x.set(2, 1, -1), OrderMoney.OUTSIDE);
        CHECK.same("rate above most", x.set(2, 1, 100001), OrderMoney.OUTSIDE);
        CHECK.same("rate 2^32 + 1", x.set(2, 1, 4294967297L), OrderMoney.OUTSIDE);
        CHECK.same("currency 4", x.set(2, 4, 1000), OrderMoney.OUTSIDE);
        CHECK.same("currency -1", x.set(2, -1, 1000), OrderMoney.OUTSIDE);
        CHECK.same("sum at most", x.about(48, 5), 50000000);
        CHECK.same("sum at least", x.about(12, 5), 500);
        CHECK.same("sum as at first", x.about(24, 5), 500000);
        CHECK.same("sum of another", x.about(36, 5), 500000);
    }
}
