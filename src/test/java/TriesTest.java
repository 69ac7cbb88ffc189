/** Promises 5, 6 and 7: tries wait, are served in order, and their answers are kept. */
public final class TriesTest {
    private static final Check CHECK = new Check();

    public static void main(String[] args) {
        asks();
        refuses();
        servesInOrder();
        looksWhenServed();
        keepsTheLatestHundred();
        CHECK.end();
    }

    private static void asks() {
        OrderMoney x = new OrderMoney();
        for (int i = 0; i < 20; i++) {
            CHECK.same("ask " + i, x.ask(i % 8, -5, -1, 0), i);
        }
        CHECK.same("20 wait", x.ask(0, 12, 0, 0), OrderMoney.ROOM);
        CHECK.same("20 wait, outside", x.ask(8, 12, 0, 0), OrderMoney.OUTSIDE);
        CHECK.same("serve(1)", x.serve(1), 1);
        CHECK.same("room for one", x.ask(0, 12, 0, 0), 20);
        CHECK.same("and no more", x.ask(0, 12, 0, 0), OrderMoney.ROOM);
    }

    private static void refuses() {
        OrderMoney x = new OrderMoney();
        CHECK.same("office -1", x.ask(-1, 12, 0, 0), OrderMoney.OUTSIDE);
        CHECK.same("office 8", x.ask(8, 12, 0, 0), OrderMoney.OUTSIDE);
        CHECK.same("t -1", x.ask(0, 12, 0, -1), OrderMoney.OUTSIDE);
        CHECK.same("refused ones take no number", x.ask(0, 12, 0, 0), 0);
        CHECK.same("serve(-1)", x.serve(-1), OrderMoney.OUTSIDE);
        CHECK.same("serve least", x.serve(Integer.MIN_VALUE), OrderMoney.OUTSIDE);
        CHECK.same("it waits still", x.answer(0), OrderMoney.NONE);
        CHECK.same("answer(-1)", x.answer(-1), OrderMoney.NONE);
        CHECK.same("answer least", x.answer(Integer.MIN_VALUE), OrderMoney.NONE);
        CHECK.same("answer(1)", x.answer(1), OrderMoney.NONE);
        CHECK.same("answer most", x.answer(Integer.MAX_VALUE), OrderMoney.NONE);
    }

    private static void servesInOrder() {
        OrderMoney x = new OrderMoney();
        x.order(0, 60, 50, 0, 1);
        x.order(0, 50, 50, 0, 1);
        x.set(0, 0, -20);
        x.ask(0, 24, 1, 10);
        x.ask(0, 12, 1, 10);
        x.ask(1, 24, 1, 10);
        CHECK.same("serve(0)", x.serve(0), 0);
        CHECK.same("serve(1)", x.serve(1), 1);
        CHECK.same("answer(0)", x.answer(0), 1);
        CHECK.same("answer(1) waits", x.answer(1), OrderMoney.NONE);
        CHECK.same("state of 12", x.about(12, 0), 0);
        CHECK.same("serve most", x.serve(Integer.MAX_VALUE), 2);
        CHECK.same("answer(1)", x.answer(1), OrderMoney.POOR);
        CHECK.same("answer(2)", x.answer(2), OrderMoney.STATE);
        CHECK.same("none waits", x.serve(1), 0);
        CHECK.same("till(0)", x.till(0), 40);
    }

    private static void looksWhenServed() {
        OrderMoney x = new OrderMoney();
        x.ask(0, 12, 1, 10);
        x.ask(0, 13, 1, 10);
        x.ask(0, 24, 1, 10);
        x.ask(0, 24, 3, 86400);
        x.order(0, 60, 50, 0, 1);
        x.order(0, 60, 86400, 0, 3);
        CHECK.same("nothing is paid before", x.till(0), 120);
        x.serve(4);
        CHECK.same("an order that came later", x.answer(0), 1);
        CHECK.same("an unknown one", x.answer(1), OrderMoney.UNKNOWN);
        CHECK.same("a wrong proof", x.answer(2), OrderMoney.WRONG);
        CHECK.same("t at until", x.answer(3), 1);
    }

    private static void keepsTheLatestHundred() {
        OrderMoney x = new OrderMoney();
        for (int i = 0; i < 100; i++) {
            CHECK.same("ask " + i, x.ask(0, 12, 1, 10), i);
            x.serve(1);
        }
        CHECK.same("answer(0) of 100", x.answer(0), OrderMoney.UNKNOWN);
        for (int i = 100; i < 120; i++) {
            CHECK.same("ask " + i, x.ask(0, 12, 1, 10), i);
            CHECK.same("gone " + (i - 100), x.answer(i - 100), OrderMoney.NONE);
            CHECK.same("kept " + (i - 99), x.answer(i - 99), OrderMoney.UNKNOWN);
        }
        CHECK.same("the latest waits", x.answer(119), OrderMoney.NONE);
        x.order(0, 5, 10, 0, 1);
        CHECK.same("all are served", x.serve(99), 20);
        CHECK.same("answer(100)", x.answer(100), 1);
        CHECK.same("answer(119)", x.answer(119), OrderMoney.STATE);
        CHECK.same("answer(99)", x.answer(99), OrderMoney.UNKNOWN);
        CHECK.same("none such yet", x.answer(120), OrderMoney.NONE);
        CHECK.same("none such by far", x.answer(219), OrderMoney.NONE);
    }
}
