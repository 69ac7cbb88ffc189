/** Promises 17, 18 and 19: what is told of orders, tills and all. */
public final class AboutTest {
    private static final Check CHECK = new Check();

    public static void main(String[] args) {
        tellsOfAnOrder();
        tellsOfTills();
        tellsOfAll();
        CHECK.end();
    }

    private static void tellsOfAnOrder() {
        OrderMoney x = new OrderMoney();
        x.order(6, 333, 50, 3, 7);
        CHECK.same("unknown, outside", x.about(13, 9), OrderMoney.UNKNOWN);
        CHECK.same("what 6", x.about(12, 6), OrderMoney.OUTSIDE);
        CHECK.same("what -1", x.about(12, -1), OrderMoney.OUTSIDE);
        CHECK.same("open", x.about(12, 0), 0);
        CHECK.same("cents", x.about(12, 1), 333);
        CHECK.same("paid in at", x.about(12, 2), 6);
        CHECK.same("paid out nowhere", x.about(12, 3), OrderMoney.NONE);
        CHECK.same("on no list", x.about(12, 4), OrderMoney.NONE);
        CHECK.same("sum", x.about(12, 5), 333);
        x.set(2, 3, 1005);
        CHECK.same("sum, cut", x.about(12, 5), 334);
        x.list(0, 12);
        CHECK.same("on the list of 0", x.about(12, 4), 0);
        x.set(0, 0, 334);
        x.pay(0, 12, 7, 1);
        CHECK.same("paid out at 0", x.about(12, 3), 0);
        x.set(2, 3, 1);
        CHECK.same("sum by the rate as it is", x.about(12, 5), 0);
        CHECK.same("all(1) as it was", x.all(1), 334);
    }

    private static void tellsOfTills() {
        OrderMoney x = new OrderMoney();
        for (int office = 0; office < 8; office++) {
            x.set(0, office, 10 + office);
        }
        for (int office = 0; office < 8; office++) {
            CHECK.same("till(" + office + ")", x.till(office), 10 + office);
        }
        CHECK.same("till(-1)", x.till(-1), OrderMoney.OUTSIDE);
        CHECK.same("till(8)", x.till(8), OrderMoney.OUTSIDE);
        CHECK.same("till most", x.till(Integer.MAX_VALUE), OrderMoney.OUTSIDE);
    }

    private static void tellsOfAll() {
        OrderMoney x = new OrderMoney();
        x.order(0, 100, 50, 1, 7);
        x.order(0, 20, 50, 0, 7);
        x.order(0, 3, 50, 0, 7);
        x.set(2, 1, 2000);
        x.set(0, 0, 1000);
        x.set(0, 0, -400);
        x.collect(0, 40, 1);
        x.collect(0, 50, 2);
        x.pass(1);
        x.fails(0, 1);
        x.pay(0, 12, 7, 1);
        x.pay(0, 12, 8, 1);
        x.pay(0, 12, 7, 1);
        x.pay(0, 36, 7, 1);
        x.replace(24);
        x.tick(51);
        CHECK.same("paid in", x.all(0), 123);
        CHECK.same("paid out", x.all(1), 203);
        CHECK.same("collected", x.all(2), 90);
        CHECK.same("passed on", x.all(3), 40);
        CHECK.same("gone back", x.all(4), 20);
        CHECK.same("put into tills", x.all(5), 600);
        CHECK.same("failed", x.all(6), 1);
        CHECK.same("suspect", x.all(7), 0);
        CHECK.same("held", x.all(8), 0);
        CHECK.same("all(9)", x.all(9), OrderMoney.OUTSIDE);
        CHECK.same("all(-1)", x.all(-1), OrderMoney.OUTSIDE);
        CHECK.same("the till", x.till(0), 550);
    }
}
