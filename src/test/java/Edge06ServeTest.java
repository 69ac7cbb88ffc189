/** Promise 6 at its boundaries. */
public final class Edge06ServeTest implements Answers {
    public static void main(String[] args) {
        belowNothing();
        asLongAsOneWaits();
        noneWaits();
        inTheOrderInWhichTheyCame();
        inOrderPastTheHundred();
        Edge.end();
    }

    private static void belowNothing() {
        Edge x = new Edge(6, "OUTSIDE (n is below 0)");
        x.orders(1, 0, 9);
        x.ask(0, 12, 0, 5).is(0);
        x.serve(Integer.MIN_VALUE).is(OUTSIDE);
        x.serve(-1).is(OUTSIDE);
        x.answer(0).is(NONE);
        x.serve(0).is(0);
        x.answer(0).is(NONE);
        x.serve(1).is(1);
        x.answer(0).is(1);
        x.serve(-1).is(OUTSIDE);
    }

    private static void asLongAsOneWaits() {
        int[] asked = {2, 3, 4, Integer.MAX_VALUE};
        for (int n : asked) {
            Edge x = new Edge(6, "So many tries are served, as long as one waits: how many");
            x.orders(3, 0, 9);
            x.ask(0, 12, 0, 5).is(0);
            x.ask(0, 24, 0, 5).is(1);
            x.ask(0, 36, 0, 5).is(2);
            x.serve(n).is(n == 2 ? 2 : 3);
            x.answer(1).is(1);
            x.answer(2).is(n == 2 ? NONE : 1);
            x.till(0).is(n == 2 ? 1 : 0);
            x.serve(n).is(n == 2 ? 1 : 0);
            x.answer(2).is(1);
        }
    }

    private static void noneWaits() {
        Edge x = new Edge(6, "as long as one waits");
        x.serve(0).is(0);
        x.serve(1).is(0);
        x.serve(Integer.MAX_VALUE).is(0);
        x.ask(0, 12, 0, 5).is(0);
        x.serve(2).is(1);
        x.serve(1).is(0);
        // What was served in vain before does not count for a later try.
        x.ask(0, 12, 0, 5).is(1);
        x.answer(1).is(NONE);
        x.serve(1).is(1);
        x.answer(1).is(UNKNOWN);
    }

    private static void inTheOrderInWhichTheyCame() {
        Edge x = new Edge(6, "A TRY is a payment that waits: served in the order in which they came");
        x.order(0, 60, 9, 0, 0).is(12);
        x.order(0, 50, 9, 0, 0).is(24);
        x.set(0, 0, -50).is(1);
        x.ask(0, 24, 0, 5).is(0);
        x.ask(0, 12, 0, 5).is(1);
        x.ask(0, 24, 0, 5).is(2);
        x.serve(3).is(3);
        x.answer(0).is(1);
        x.answer(1).is(POOR);
        x.answer(2).is(STATE);
        x.till(0).is(10);
    }

    private static void inOrderPastTheHundred() {
        Edge x = new Edge(6, "served in the order in which they came");
        for (int i = 0; i < 90; i++) {
            x.ask(0, 12, 0, 5).is(i);
            x.serve(1).is(1);
        }
        x.orders(20, 0, 9);
        // Twenty tries that wait across the place where kept tries come round again.
        for (int i = 90; i < 110; i++) {
            x.ask(0, Watch.numberOf(i - 89), 0, 5).is(i);
        }
        for (int i = 90; i < 110; i++) {
            x.answer(i).is(NONE);
            x.serve(1).is(1);
            x.answer(i).is(1);
            x.about(Watch.numberOf(i - 89), 0).is(PAID);
            x.till(0).is(109 - i);
        }
        x.serve(1).is(0);
    }
}
