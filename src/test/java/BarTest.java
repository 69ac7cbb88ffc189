/** Promises 8 and 9: orders are barred, and since when. */
public final class BarTest {
    private static final Check CHECK = new Check();

    public static void main(String[] args) {
        bars();
        refuses();
        tellsSinceWhen();
        CHECK.end();
    }

    private static void bars() {
        OrderMoney x = new OrderMoney();
        x.order(0, 100, 50, 0, 7);
        x.order(0, 100, 50, 0, 7);
        x.list(0, 12);
        CHECK.same("bar", x.bar(12, 30), 1);
        CHECK.same("state", x.about(12, 0), 2);
        CHECK.same("on no list", x.about(12, 4), OrderMoney.NONE);
        CHECK.same("its place on the list is free", x.list(0, 24), 1);
        CHECK.same("not paid, before t too", x.pay(0, 12, 7, 5), OrderMoney.STATE);
        CHECK.same("not listed", x.list(1, 12), OrderMoney.STATE);
        CHECK.same("till(0)", x.till(0), 200);
        CHECK.same("from 0 on", x.bar(24, 0), 1);
        CHECK.same("since 0", x.since(24), 0);
    }

    private static void refuses() {
        OrderMoney x = new OrderMoney();
        x.order(0, 100, 50, 0, 7);
        CHECK.same("no such number", x.bar(13, -1), OrderMoney.UNKNOWN);
        CHECK.same("t -1", x.bar(12, -1), OrderMoney.OUTSIDE);
        CHECK.same("open still", x.about(12, 0), 0);
        CHECK.same("never barred", x.since(12), OrderMoney.NONE);
        x.bar(12, 9);
        CHECK.same("barred already, t -1", x.bar(12, -1), OrderMoney.OUTSIDE);
        CHECK.same("barred already", x.bar(12, 10), OrderMoney.STATE);
        CHECK.same("since 9 still", x.since(12), 9);
        x.order(0, 100, 50, 0, 7);
        x.pay(0, 24, 7, 1);
        CHECK.same("paid", x.bar(24, 1), OrderMoney.STATE);
        CHECK.same("paid, never barred", x.since(24), OrderMoney.NONE);
    }

    private static void tellsSinceWhen() {
        OrderMoney x = new OrderMoney();
        x.order(0, 100, 50, 0, 7);
        x.order(0, 100, 50, 0, 7);
        x.order(0, 100, 50, 0, 7);
        CHECK.same("unknown", x.since(48), OrderMoney.UNKNOWN);
        x.bar(12, Long.MAX_VALUE);
        x.bar(24, 5);
        CHECK.same("replaced", x.replace(24), 48);
        CHECK.same("gone back", x.tick(51), 3);
        CHECK.same("since of the one gone back", x.since(12), Long.MAX_VALUE);
        CHECK.same("since of the replaced", x.since(24), 5);
        CHECK.same("since of the new one", x.since(48), OrderMoney.NONE);
        CHECK.same("back, never barred", x.since(36), OrderMoney.NONE);
        CHECK.same("back is not barred", x.bar(36, 1), OrderMoney.STATE);
        CHECK.same("replaced is not barred", x.bar(24, 1), OrderMoney.STATE);
    }
}
