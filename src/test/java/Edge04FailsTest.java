/** Promise 4 at its boundaries: which step fails, when, and what is left of the payment. */
public final class Edge04FailsTest implements Answers {
    private static final String FAIL = "A step may be told to FAIL (before it is looked at): then what was "
        + "done is undone, the last step first, and it is FAILED; so it is with WRONG, LIMITED, POOR";
    private static final String NEXT = "An office's failing counts for its next payment that comes to that step, once";

    public static void main(String[] args) {
        steps();
        offices();
        toldAlready();
        toldOfAStepBeforeStays();
        isUndone();
        beforeItIsLookedAt();
        undoneWithoutFailing();
        holdGoesOnEachWayOut();
        once();
        waitsForAPaymentThatComesToTheStep();
        countsForItsOfficeAlone();
        aTryIsAPayment();
        Edge.end();
    }

    private static void steps() {
        Edge x = new Edge(4, "Step 1 .. 5 of the office's next payment that comes to it fails");
        x.fails(0, Integer.MIN_VALUE).is(OUTSIDE);
        x.fails(0, -1).is(OUTSIDE);
        x.fails(0, 0).is(OUTSIDE);
        x.fails(0, 6).is(OUTSIDE);
        // Steps that are 1 and 5 only when they are cut to a shift's five bits.
        x.fails(0, 33).is(OUTSIDE);
        x.fails(0, 37).is(OUTSIDE);
        x.fails(0, Integer.MAX_VALUE).is(OUTSIDE);
        x.orders(6, 0, 50);
        x.pay(0, 12, 0, 5).is(1);
        for (int step = 1; step <= 5; step++) {
            x.fails(0, step).is(1);
            x.pay(0, Watch.numberOf(step + 1), 0, 5).is(FAILED);
            x.all(6).is(step);
            x.pay(0, Watch.numberOf(step + 1), 0, 5).is(1);
        }
    }

    private static void offices() {
        Edge x = new Edge(4, "OUTSIDE.");
        x.fails(Integer.MIN_VALUE, 1).is(OUTSIDE);
        x.fails(-1, 1).is(OUTSIDE);
        x.fails(0, 1).is(1);
        x.fails(1, 1).is(1);
        x.fails(6, 1).is(1);
        x.fails(7, 1).is(1);
        x.fails(8, 1).is(OUTSIDE);
        x.fails(Integer.MAX_VALUE, 1).is(OUTSIDE);
        x.orders(1, 5, 50);
        x.pay(5, 12, 0, 5).is(1);
    }

    private static void toldAlready() {
        for (int step = 1; step <= 5; step++) {
            Edge x = new Edge(4, "1; 0 if it was told already");
            x.orders(1, 0, 50);
            x.fails(0, step).is(1);
            x.fails(0, step).is(0);
            x.fails(0, step).is(0);
            x.pay(0, 12, 0, 5).is(FAILED);
            x.fails(0, step).is(1);
            x.pay(0, 12, 0, 5).is(FAILED);
            x.pay(0, 12, 0, 5).is(1);
            x.fails(0, step).is(1);
        }
    }

    private static void toldOfAStepBeforeStays() {
        Edge up = new Edge(4, "(what was told of a step before stays)");
        up.orders(1, 0, 50);
        for (int step = 1; step <= 5; step++) {
            up.fails(0, step).is(1);
        }
        for (int count = 1; count <= 5; count++) {
            up.pay(0, 12, 0, 5).is(FAILED);
            up.all(6).is(count);
        }
        up.pay(0, 12, 0, 5).is(1);
        Edge down = new Edge(4, "(what was told of a step before stays)");
        down.orders(1, 0, 50);
        for (int step = 5; step >= 1; step--) {
            down.fails(0, step).is(1);
            down.fails(0, 0).is(OUTSIDE);
            down.fails(0, 6).is(OUTSIDE);
        }
        for (int step = 1; step <= 5; step++) {
            down.pay(0, 12, 0, 5).is(FAILED);
            // The steps up to this one are told no more, those above it still are.
            for (int other = 5; other > step; other--) {
                down.fails(0, other).is(0);
            }
        }
        down.pay(0, 12, 0, 5).is(1);
    }

    private static void isUndone() {
        for (int step = 1; step <= 5; step++) {
            Edge x = new Edge(4, FAIL);
            x.order(0, 100, 50, 0, 7).is(12);
            x.order(0, 100, 50, 0, 7).is(24);
            x.list(0, 12).is(1);
            x.set(0, 0, -100).is(1);
            x.set(1, 0, 100).is(1);
            x.fails(0, step).is(1);
            x.pay(0, 12, 7, 5).is(FAILED);
            x.till(0).is(100);
            x.about(12, 0).is(OPEN);
            x.about(12, 3).is(NONE);
            x.about(12, 4).is(0);
            x.all(1).is(0);
            x.all(6).is(1);
            x.all(7).is(0);
            x.all(8).is(0);
            x.list(0, 24).is(2);
            x.pay(0, 12, 7, 5).is(1);
            x.till(0).is(0);
            x.all(1).is(100);
        }
    }

    private static void beforeItIsLookedAt() {
        Edge x = new Edge(4, FAIL);
        x.order(0, 100, 50, 0, 7).is(12);
        x.fails(1, 2).is(1);
        x.pay(1, 12, 8, 5).is(FAILED);
        x.pay(1, 12, 8, 5).is(WRONG);
        x.set(1, 1, 99).is(1);
        x.fails(1, 3).is(1);
        x.pay(1, 12, 8, 5).is(WRONG);
        x.pay(1, 12, 7, 5).is(FAILED);
        x.pay(1, 12, 7, 5).is(LIMITED);
        x.fails(1, 4).is(1);
        x.pay(1, 12, 7, 5).is(LIMITED);
        x.set(1, 1, 100).is(1);
        x.pay(1, 12, 7, 5).is(FAILED);
        x.pay(1, 12, 7, 5).is(POOR);
        x.fails(1, 5).is(1);
        x.pay(1, 12, 7, 5).is(POOR);
        x.set(0, 1, 100).is(1);
        x.pay(1, 12, 7, 5).is(FAILED);
        x.pay(1, 12, 7, 5).is(1);
        x.all(6).is(4);
    }

    private static void undoneWithoutFailing() {
        Edge x = new Edge(4, "so it is with WRONG, LIMITED, POOR");
        x.order(0, 100, 50, 0, 7).is(12);
        x.list(0, 12).is(1);
        x.set(0, 0, -1).is(1);
        int[] due = {WRONG, LIMITED, POOR};
        for (int i = 0; i < due.length; i++) {
            x.set(1, 0, i == 1 ? 99 : 100).is(1);
            x.pay(0, 12, i == 0 ? 8 : 7, 5).is(due[i]);
            x.till(0).is(99);
            x.about(12, 0).is(OPEN);
            x.about(12, 3).is(NONE);
            x.about(12, 4).is(0);
            x.all(1).is(0);
            x.all(8).is(0);
        }
        x.set(0, 0, 1).is(1);
        x.pay(0, 12, 7, 5).is(1);
    }

    private static void holdGoesOnEachWayOut() {
        Edge x = new Edge(4, "The hold goes on each way out");
        x.order(0, 100, 50, 0, 7).is(12);
        x.order(0, 100, 50, 0, 7).is(24);
        x.set(1, 1, 99).is(1);
        x.pay(1, 12, 8, 5).is(WRONG);
        x.all(8).is(0);
        x.pay(1, 12, 7, 5).is(LIMITED);
        x.all(8).is(0);
        x.set(1, 1, -1).is(1);
        x.pay(1, 12, 7, 5).is(POOR);
        x.all(8).is(0);
        for (int step = 1; step <= 5; step++) {
            x.fails(0, step).is(1);
            x.pay(0, 12, 7, 5).is(FAILED);
            x.all(8).is(0);
        }
        x.pay(0, 12, 7, 5).is(1);
        x.all(8).is(0);
        x.pay(0, 12, 7, 5).is(STATE);
        x.all(8).is(0);
        // What is held no more may be barred, replaced, listed.
        x.list(0, 24).is(1);
        x.bar(24, 5).is(1);
    }

    private static void once() {
        for (int step = 1; step <= 5; step++) {
            Edge x = new Edge(4, NEXT);
            x.orders(3, 0, 50);
            x.pay(0, 12, 0, 5).is(1);
            x.fails(0, step).is(1);
            x.pay(0, 24, 0, 5).is(FAILED);
            x.pay(0, 24, 0, 5).is(1);
            x.pay(0, 36, 0, 5).is(1);
            x.all(6).is(1);
        }
    }

    private static void waitsForAPaymentThatComesToTheStep() {
        Edge x = new Edge(4, NEXT);
        x.orders(1, 0, 50);
        x.fails(0, 1).is(1);
        x.pay(0, 13, 0, 5).is(UNKNOWN);
        x.pay(0, 12, 0, -1).is(OUTSIDE);
        x.pay(0, 12, 0, 51).is(STATE);
        x.fails(0, 1).is(0);
        x.pay(0, 12, 0, 50).is(FAILED);
        x.fails(0, 3).is(1);
        x.pay(0, 12, 1, 5).is(WRONG);
        x.fails(0, 2).is(1);
        x.pay(0, 12, 0, 5).is(FAILED);
        x.fails(0, 3).is(0);
        x.pay(0, 12, 0, 5).is(FAILED);
        x.pay(0, 12, 0, 5).is(1);
        x.all(6).is(3);
    }

    private static void countsForItsOfficeAlone() {
        Edge x = new Edge(4, NEXT);
        for (int office = 2; office <= 4; office++) {
            x.orders(1, office, 50);
        }
        x.fails(3, 4).is(1);
        x.pay(2, 12, 0, 5).is(1);
        x.pay(4, 36, 0, 5).is(1);
        x.fails(3, 4).is(0);
        x.pay(3, 24, 0, 5).is(FAILED);
        x.pay(3, 24, 0, 5).is(1);
    }

    private static void aTryIsAPayment() {
        Edge x = new Edge(4, "A TRY is a payment that waits");
        x.orders(1, 0, 50);
        x.ask(0, 12, 0, 5).is(0);
        x.ask(0, 12, 0, 5).is(1);
        x.fails(0, 5).is(1);
        x.serve(1).is(1);
        x.answer(0).is(FAILED);
        x.all(6).is(1);
        x.serve(1).is(1);
        x.answer(1).is(1);
    }
}
