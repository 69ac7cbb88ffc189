/** Promise 16: orders go back. */
public final class TickTest {
    private static final Check CHECK = new Check();

    public static void main(String[] args) {
        goesBackAfterUntil();
        goesBackInOrderWhileTheTillHasIt();
        leavesOthersAsTheyAre();
        CHECK.end();
    }

    private static void goesBackAfterUntil() {
        OrderMoney x = new OrderMoney();
        x.order(3, 100, 50, 1, 7);
        x.set(2, 1, 5000);
        x.set(0, 3, 1000);
        x.list(4, 12);
        x.cut(4, true);
        CHECK.same("t -1", x.tick(-1), OrderMoney.OUTSIDE);
        CHECK.same("t 0", x.tick(0), 0);
        CHECK.same("at until", x.tick(50), 0);
        CHECK.same("on the list still", x.about(12, 4), 4);
        CHECK.same("after until", x.tick(51), 1);
        CHECK.same("back", x.about(12, 0), 3);
        CHECK.same("on no list", x.about(12, 4), OrderMoney.NONE);
        CHECK.same("the cents without the rate", x.till(3), 1000);
        CHECK.same("all(4)", x.all(4), 100);
        CHECK.same("all(1)", x.all(1), 0);
        CHECK.same("once", x.tick(Long.MAX_VALUE), 0);
        CHECK.same("not paid", x.pay(3, 12, 7, 1), OrderMoney.STATE);
    }

    private static void goesBackInOrderWhileTheTillHasIt() {
        OrderMoney x = new OrderMoney();
        x.order(0, 60, 20, 0, 7);
        x.order(0, 50, 10, 0, 7);
        x.order(1, 70, 10, 0, 7);
        x.order(0, 30, 10, 0, 7);
        x.order(0, 5, Long.MAX_VALUE, 0, 7);
        x.list(2, 24);
        x.set(0, 0, -55);
        CHECK.same("60, 70 and 30, not 50", x.tick(21), 3);
        CHECK.same("24 stays open", x.about(24, 0), 0);
        CHECK.same("24 stays on its list", x.about(24, 4), 2);
        CHECK.same("till(0)", x.till(0), 0);
        CHECK.same("all(4)", x.all(4), 160);
        x.set(0, 0, 49);
        CHECK.same("less than it", x.tick(21), 0);
        x.set(0, 0, 1);
        CHECK.same("just enough", x.tick(11), 1);
        CHECK.same("none is after the latest until", x.tick(Long.MAX_VALUE), 0);
        CHECK.same("the tills balance", Watch.balance(x), 0);
    }

    private static void leavesOthersAsTheyAre() {
        OrderMoney x = new OrderMoney();
        for (int i = 0; i < 4; i++) {
            x.order(0, 10, 50, 0, 7);
        }
        x.pay(0, 12, 7, 1);
        x.bar(24, 1);
        CHECK.same("replace", x.replace(36), 50);
        CHECK.same("barred, open and new", x.tick(51), 3);
        CHECK.same("paid", x.about(12, 0), 1);
        CHECK.same("barred went back", x.about(24, 0), 3);
        CHECK.same("replaced", x.about(36, 0), 4);
        CHECK.same("open went back", x.about(48, 0), 3);
        CHECK.same("the new one went back", x.about(50, 0), 3);
        CHECK.same("till(0)", x.till(0), 0);
        CHECK.same("all(4)", x.all(4), 30);
    }
}
