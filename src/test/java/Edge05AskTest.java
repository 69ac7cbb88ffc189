/** Promise 5 at its boundaries. */
public final class Edge05AskTest implements Answers {
    private static final String OUTSIDES = "OUTSIDE (office, t below 0)";

    public static void main(String[] args) {
        firstOfAll();
        offices();
        times();
        room();
        roomAfterServing();
        numberIsLookedAtWhenServed();
        Edge.end();
    }

    private static void firstOfAll() {
        Edge x = new Edge(5, "A try waits: its number, 0 the first of all");
        x.ask(8, 12, 0, 5).is(OUTSIDE);
        x.ask(0, 12, 0, -1).is(OUTSIDE);
        x.ask(0, 12, 0, 5).is(0);
        x.ask(0, 12, 0, 5).is(1);
        x.serve(2).is(2);
        x.ask(0, 12, 0, 5).is(2);
    }

    private static void offices() {
        Edge x = new Edge(5, OUTSIDES);
        x.ask(Integer.MIN_VALUE, 12, 0, 5).is(OUTSIDE);
        x.ask(-1, 12, 0, 5).is(OUTSIDE);
        x.ask(0, 12, 0, 5).is(0);
        x.ask(1, 12, 0, 5).is(1);
        x.ask(6, 12, 0, 5).is(2);
        x.ask(7, 12, 0, 5).is(3);
        x.ask(8, 12, 0, 5).is(OUTSIDE);
        x.ask(Integer.MAX_VALUE, 12, 0, 5).is(OUTSIDE);
        x.serve(9).is(4);
    }

    private static void times() {
        Edge x = new Edge(5, OUTSIDES);
        x.orders(3, 0, Long.MAX_VALUE);
        x.ask(0, 12, 0, Long.MIN_VALUE).is(OUTSIDE);
        x.ask(0, 12, 0, -1).is(OUTSIDE);
        x.ask(0, 12, 0, 0).is(0);
        x.ask(0, 24, 0, 1).is(1);
        x.ask(0, 36, 0, Long.MAX_VALUE).is(2);
        x.serve(9).is(3);
        x.answer(0).is(1);
        x.answer(1).is(1);
        x.answer(2).is(1);
    }

    private static void room() {
        Edge x = new Edge(5, "ROOM (20 wait)");
        for (int i = 0; i < 18; i++) {
            x.ask(i % 8, 12, 0, 5).is(i);
        }
        x.ask(0, 12, 0, 5).is(18);
        x.ask(0, 12, 0, 5).is(19);
        x.ask(0, 12, 0, 5).is(ROOM);
        x.ask(0, 12, 0, 5).is(ROOM);
        x.serve(0).is(0);
        x.ask(0, 12, 0, 5).is(ROOM);
        x.serve(30).is(20);
    }

    private static void roomAfterServing() {
        Edge x = new Edge(5, "ROOM (20 wait)");
        for (int i = 0; i < 20; i++) {
            x.ask(0, 12, 0, 5).is(i);
        }
        // So often that the numbers go past the 100 that are kept, with 20 waiting.
        for (int i = 20; i < 130; i++) {
            x.ask(0, 12, 0, 5).is(ROOM);
            x.serve(1).is(1);
            x.ask(0, 12, 0, 5).is(i);
        }
        x.ask(0, 12, 0, 5).is(ROOM);
        x.serve(3).is(3);
        x.ask(0, 12, 0, 5).is(130);
        x.ask(0, 12, 0, 5).is(131);
        x.ask(0, 12, 0, 5).is(132);
        x.ask(0, 12, 0, 5).is(ROOM);
        x.serve(21).is(20);
    }

    private static void numberIsLookedAtWhenServed() {
        Edge x = new Edge(5, "(The order's number is looked at when it is served.)");
        x.ask(0, 11, 0, 5).is(0);
        x.ask(0, 12, 0, 5).is(1);
        x.ask(0, 13, 0, 5).is(2);
        x.ask(0, -12, 0, 5).is(3);
        x.ask(0, Long.MIN_VALUE, 0, 5).is(4);
        x.ask(0, Long.MAX_VALUE, 0, 5).is(5);
        x.ask(0, 24, Integer.MIN_VALUE, 5).is(6);
        x.orders(2, 0, 9);
        x.all(1).is(0);
        x.serve(20).is(7);
        x.answer(0).is(UNKNOWN);
        x.answer(1).is(1);
        x.answer(2).is(UNKNOWN);
        x.answer(3).is(UNKNOWN);
        x.answer(4).is(UNKNOWN);
        x.answer(5).is(UNKNOWN);
        x.answer(6).is(WRONG);
    }
}
