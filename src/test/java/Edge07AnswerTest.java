/** Promise 7 at its boundaries. */
public final class Edge07AnswerTest implements Answers {
    public static void main(String[] args) {
        whileItWaits();
        noneSuch();
        asPayHasIt();
        latestHundred();
        latestHundredThatWait();
        Edge.end();
    }

    private static void whileItWaits() {
        Edge x = new Edge(7, "NONE while it waits");
        x.orders(1, 0, 9);
        for (int i = 0; i < 3; i++) {
            x.ask(0, 12, 0, 5).is(i);
        }
        x.answer(1).is(NONE);
        x.serve(1).is(1);
        x.answer(0).is(1);
        x.answer(1).is(NONE);
        x.answer(2).is(NONE);
        x.serve(1).is(1);
        x.answer(0).is(1);
        x.answer(1).is(STATE);
        x.answer(2).is(NONE);
    }

    private static void noneSuch() {
        Edge x = new Edge(7, "or when there is none such");
        x.answer(0).is(NONE);
        x.orders(2, 0, 9);
        x.ask(0, 12, 0, 5).is(0);
        x.ask(0, 24, 0, 5).is(1);
        x.serve(2).is(2);
        x.answer(Integer.MIN_VALUE).is(NONE);
        x.answer(-100).is(NONE);
        x.answer(-99).is(NONE);
        x.answer(-1).is(NONE);
        x.answer(0).is(1);
        x.answer(1).is(1);
        x.answer(2).is(NONE);
        x.answer(100).is(NONE);
        x.answer(101).is(NONE);
        x.answer(Integer.MAX_VALUE).is(NONE);
    }

    private static void asPayHasIt() {
        Edge x = new Edge(7, "What a try came to, as pay has it");
        x.order(0, 100, 50, 0, 7).is(12);
        x.set(1, 1, 99).is(1);
        x.fails(2, 1).is(1);
        x.ask(0, 13, 7, 5).is(0);
        x.ask(0, 12, 7, 51).is(1);
        x.ask(0, 12, 8, 5).is(2);
        x.ask(1, 12, 7, 5).is(3);
        x.ask(2, 12, 7, 5).is(4);
        x.ask(2, 12, 7, 5).is(5);
        x.ask(0, 12, 7, 50).is(6);
        x.serve(7).is(7);
        int[] due = {UNKNOWN, STATE, WRONG, LIMITED, FAILED, POOR, 1};
        for (int trial = 0; trial < due.length; trial++) {
            x.answer(trial).is(due[trial]);
            x.answer(trial).is(due[trial]);
        }
    }

    private static void latestHundred() {
        Edge x = new Edge(7, "(of all that were asked the latest 100 are kept)");
        x.order(0, 1, 50, 0, 7).is(12);
        x.ask(0, 12, 7, 5).is(0);
        x.ask(0, 12, 7, 5).is(1);
        x.serve(2).is(2);
        for (int i = 2; i < 99; i++) {
            x.ask(0, 13, 7, 5).is(i);
            x.serve(1).is(1);
        }
        x.answer(0).is(1);
        x.ask(0, 13, 7, 5).is(99);
        x.serve(1).is(1);
        x.answer(0).is(1);
        x.answer(1).is(STATE);
        x.answer(99).is(UNKNOWN);
        x.ask(0, 13, 7, 51).is(100);
        x.answer(0).is(NONE);
        x.answer(1).is(STATE);
        x.answer(2).is(UNKNOWN);
        x.answer(100).is(NONE);
        x.serve(1).is(1);
        x.answer(0).is(NONE);
        x.answer(100).is(UNKNOWN);
        x.ask(0, 12, 7, 5).is(101);
        x.answer(1).is(NONE);
        x.answer(2).is(UNKNOWN);
    }

    private static void latestHundredThatWait() {
        Edge x = new Edge(7, "(of all that were asked the latest 100 are kept)");
        for (int i = 0; i < 90; i++) {
            x.ask(0, 12, 0, 5).is(i);
            x.serve(1).is(1);
        }
        for (int i = 90; i < 110; i++) {
            x.ask(0, 12, 0, 5).is(i);
        }
        x.ask(0, 12, 0, 5).is(ROOM);
        x.answer(9).is(NONE);
        x.answer(10).is(UNKNOWN);
        x.answer(11).is(UNKNOWN);
        x.answer(89).is(UNKNOWN);
        x.answer(90).is(NONE);
        x.answer(109).is(NONE);
        x.serve(20).is(20);
        x.answer(9).is(NONE);
        x.answer(10).is(UNKNOWN);
        x.answer(90).is(UNKNOWN);
        x.answer(109).is(UNKNOWN);
        x.answer(110).is(NONE);
    }
}
