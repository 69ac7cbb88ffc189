/** Promise 10. */
public final class ReplaceTest {
    private static final Check CHECK = new Check();

    public static void main(String[] args) {
        replacesAnOpenOne();
        replacesABarredOne();
        refuses();
        CHECK.end();
    }

    private static void replacesAnOpenOne() {
        OrderMoney x = new OrderMoney();
        x.order(4, 300, 50, 2, 7);
        x.order(4, 300, 50, 2, 7);
        x.set(2, 2, 2000);
        x.list(5, 12);
        CHECK.same("replace", x.replace(12), 36);
        CHECK.same("the old one", x.about(12, 0), 4);
        CHECK.same("the old one is on no list", x.about(12, 4), OrderMoney.NONE);
        CHECK.same("its place is free", x.list(5, 24), 1);
        CHECK.same("open", x.about(36, 0), 0);
        CHECK.same("cents", x.about(36, 1), 300);
        CHECK.same("office", x.about(36, 2), 4);
        CHECK.same("paid out nowhere", x.about(36, 3), OrderMoney.NONE);
        CHECK.same("on no list", x.about(36, 4), OrderMoney.NONE);
        CHECK.same("sum", x.about(36, 5), 600);
        CHECK.same("all(0)", x.all(0), 600);
        CHECK.same("till(4)", x.till(4), 600);
        CHECK.same("the old one is not paid", x.pay(4, 12, 7, 5), OrderMoney.STATE);
        CHECK.same("the time", x.pay(4, 36, 7, 51), OrderMoney.STATE);
        CHECK.same("the proof", x.pay(4, 36, 8, 50), OrderMoney.WRONG);
        CHECK.same("paid", x.pay(4, 36, 7, 50), 1);
    }

    private static void replacesABarredOne() {
        OrderMoney x = new OrderMoney();
        x.order(4, 300, 50, 0, 7);
        x.bar(12, 3);
        CHECK.same("replace", x.replace(12), 24);
        CHECK.same("the new one is open", x.about(24, 0), 0);
        CHECK.same("and again", x.replace(24), 36);
        CHECK.same("paid", x.pay(4, 36, 7, 5), 1);
    }

    private static void refuses() {
        OrderMoney x = new OrderMoney();
        for (int i = 0; i < 299; i++) {
            x.order(0, 1, 50, 0, 7);
        }
        CHECK.same("unknown", x.replace(13), OrderMoney.UNKNOWN);
        CHECK.same("below 0", x.replace(-12), OrderMoney.UNKNOWN);
        x.pay(0, 24, 7, 5);
        CHECK.same("paid", x.replace(24), OrderMoney.STATE);
        CHECK.same("the last room", x.replace(12), Watch.numberOf(300));
        CHECK.same("replaced already, no room", x.replace(12), OrderMoney.STATE);
        CHECK.same("unknown, no room", x.replace(13), OrderMoney.UNKNOWN);
        long[] before = Watch.row(x);
        CHECK.same("no room", x.replace(36), OrderMoney.ROOM);
        CHECK.holds("a refused one changes nothing", Watch.isSame(before, x));
        CHECK.same("no room for an order", x.order(0, 1, 0, 0, 0), OrderMoney.ROOM);
        x.tick(51);
        CHECK.same("gone back", x.replace(36), OrderMoney.STATE);
    }
}
