/** Sentences of the document that name no boundary, and so have no place in the tests of its edges. */
public final class TermsTest implements Answers {
    private static final int[] STATES = {OPEN, PAID, BARRED, BACK, REPLACED};

    public static void main(String[] args) {
        toldByNumbers();
        ordersHaveProofs();
        statesForPay();
        statesForBar();
        statesForReplace();
        statesForList();
        statesForTick();
        payHasSteps();
        firstItIsHeld();
        askedOutside();
        centsInEachState();
        inAllIsOverAllOffices();
        failingInAllIsOverAllOffices();
        Edge.end();
    }

    /** Neither an order's place among them nor its cents tell it. */
    private static void toldByNumbers() {
        Edge x = new Edge(2, "ORDERS are told by NUMBERS");
        x.order(0, 2, 50, 0, 0).is(12);
        x.order(0, 1, 50, 0, 0).is(24);
        for (int other = 0; other <= 11; other++) {
            x.pay(0, other, 0, 5).is(UNKNOWN);
            x.bar(other, 5).is(UNKNOWN);
            x.since(other).is(UNKNOWN);
            x.replace(other).is(UNKNOWN);
            x.list(0, other).is(UNKNOWN);
            x.about(other, 0).is(UNKNOWN);
        }
        x.about(12, 1).is(2);
        x.about(24, 1).is(1);
        x.list(1, 24).is(1);
        x.bar(12, 5).is(1);
        x.since(12).is(5);
        x.replace(12).is(36);
        x.pay(0, 36, 0, 5).is(1);
        x.about(24, 0).is(OPEN);
    }

    private static void ordersHaveProofs() {
        int[] proofs = {0, 1, 999999999, Integer.MAX_VALUE};
        for (int proof : proofs) {
            Edge x = new Edge(2, "a PROOF");
            x.order(0, 10, 50, 0, proof).is(12);
            x.replace(12).is(24);
            x.pay(0, 24, proof ^ 1, 5).is(WRONG);
            x.pay(0, 24, proof, 5).is(1);
        }
    }

    /** An order of 10 cents at office 0, until 50, with proof 7. */
    private static Edge inState(int promise, int state) {
        Edge x = new Edge(promise, "and is OPEN, PAID, BARRED (since some time; on no list), BACK or REPLACED");
        x.order(0, 10, 50, 0, 7).is(12);
        switch (state) {
            case PAID -> x.pay(0, 12, 7, 5).is(1);
            case BARRED -> x.bar(12, 5).is(1);
            case BACK -> x.tick(51).is(1);
            case REPLACED -> x.replace(12).is(24);
            default -> x.about(12, 4).is(NONE);
        }
        x.about(12, 0).is(state);
        x.set(0, 0, 100).is(1);
        return x;
    }

    private static void statesForPay() {
        for (int state : STATES) {
            Edge x = inState(3, state);
            x.pay(0, 12, 7, 50).is(state == OPEN ? 1 : STATE);
            x.about(12, 0).is(state == OPEN ? PAID : state);
            x.ask(0, 12, 7, 50).is(0);
            x.serve(1).is(1);
            x.answer(0).is(STATE);
            x.all(1).is(state == OPEN || state == PAID ? 10 : 0);
        }
    }

    private static void statesForBar() {
        for (int state : STATES) {
            Edge x = inState(8, state);
            x.bar(12, 6).is(state == OPEN ? 1 : STATE);
            x.about(12, 0).is(state == OPEN ? BARRED : state);
            x.since(12).is(state == OPEN ? 6 : state == BARRED ? 5 : NONE);
        }
    }

    private static void statesForReplace() {
        for (int state : STATES) {
            Edge x = inState(10, state);
            boolean isWaiting = state == OPEN || state == BARRED;
            x.replace(12).is(isWaiting ? 24 : STATE);
            x.about(12, 0).is(isWaiting ? REPLACED : state);
            x.about(24, 0).is(isWaiting || state == REPLACED ? OPEN : UNKNOWN);
        }
    }

    private static void statesForList() {
        for (int state : STATES) {
            Edge x = inState(12, state);
            x.list(0, 12).is(state == OPEN ? 1 : STATE);
            x.about(12, 0).is(state);
            x.about(12, 4).is(state == OPEN ? 0 : NONE);
        }
    }

    private static void statesForTick() {
        for (int state : STATES) {
            Edge x = inState(16, state);
            boolean isWaiting = state == OPEN || state == BARRED;
            // A letter that was replaced stays; the one in its place goes back.
            x.tick(51).is(isWaiting || state == REPLACED ? 1 : 0);
            x.about(12, 0).is(isWaiting ? BACK : state);
            x.tick(51).is(0);
            x.since(12).is(state == BARRED ? 5 : NONE);
        }
    }

    /** A step that is told to fail is come to only behind those before it. */
    private static void payHasSteps() {
        Edge x = new Edge(3, "TO PAY has steps");
        x.order(0, 100, 50, 0, 7).is(12);
        x.set(1, 1, 99).is(1);
        int[] due = {WRONG, LIMITED, POOR};
        for (int behind = 3; behind <= 5; behind++) {
            x.fails(1, behind).is(1);
            x.pay(1, 12, behind == 3 ? 8 : 7, 5).is(due[behind - 3]);
            x.fails(1, behind).is(0);
            x.pay(1, 12, 8, 5).is(WRONG);
            x.set(1, 1, behind == 3 ? 99 : 100).is(1);
            if (behind == 5) {
                x.set(0, 1, 100).is(1);
            }
            x.pay(1, 12, 7, 5).is(FAILED);
            x.all(6).is(behind - 2);
        }
        x.pay(1, 12, 7, 5).is(1);
    }

    private static void firstItIsHeld() {
        Edge x = new Edge(3, "then 1 it is HELD");
        x.order(0, 100, 50, 0, 7).is(12);
        x.fails(0, 1).is(1);
        // Held comes before all that is looked at, and behind all that refuses.
        x.pay(0, 12, 7, 51).is(STATE);
        x.pay(0, 12, 8, 50).is(FAILED);
        x.all(8).is(0);
        x.pay(0, 12, 8, 50).is(WRONG);
        x.all(8).is(0);
        x.pay(0, 12, 7, 50).is(1);
        x.all(8).is(0);
    }

    private static void askedOutside() {
        Edge x = new Edge(5, "OUTSIDE (office, t below 0), ROOM (20 wait)");
        x.ask(-1, 12, 0, 0).is(OUTSIDE);
        x.ask(8, 12, 0, 0).is(OUTSIDE);
        x.ask(0, 12, 0, -1).is(OUTSIDE);
        // A number and a proof that no order has are none of its matters.
        x.ask(0, -5, -5, 0).is(0);
        x.ask(7, Long.MIN_VALUE, Integer.MIN_VALUE, Long.MAX_VALUE).is(1);
        x.serve(2).is(2);
        x.answer(0).is(UNKNOWN);
        x.answer(1).is(UNKNOWN);
    }

    private static void centsInEachState() {
        for (int state : STATES) {
            Edge x = inState(17, state);
            x.about(12, 1).is(10);
            x.set(2, 0, 5000).is(1);
            x.about(12, 1).is(10);
            x.about(12, 5).is(50);
        }
        Edge x = new Edge(17, "1 its cents");
        x.order(0, 1, 50, 0, 7).is(12);
        x.order(0, 500000, 50, 3, 7).is(24);
        x.about(12, 1).is(1);
        x.about(24, 1).is(500000);
    }

    private static void inAllIsOverAllOffices() {
        Edge x = new Edge(19, "In all");
        for (int office = 0; office < 8; office++) {
            x.order(office, 100, 50, 0, office).is(Watch.numberOf(2 * office + 1));
            x.order(office, 10, 40, 0, office).is(Watch.numberOf(2 * office + 2));
            x.pay(office, Watch.numberOf(2 * office + 1), office, 5).is(1);
            x.collect(office, 1000, office).is(office + 1);
            x.set(0, office, 10000).is(1);
        }
        x.tick(41).is(8);
        x.pass(3).is(4);
        x.all(0).is(880);
        x.all(1).is(800);
        x.all(2).is(8000);
        x.all(3).is(4000);
        x.all(4).is(80);
        x.all(5).is(80000);
        x.all(7).is(0);
        x.balance().is(0);
    }

    private static void failingInAllIsOverAllOffices() {
        Edge x = new Edge(19, "In all");
        for (int office = 0; office < 8; office++) {
            x.fails(office, 1).is(1);
            for (int k = 1; k <= 3; k++) {
                long number = Watch.numberOf(3 * office + k);
                x.order(office, 5, 50, 0, 0).is(number);
                x.pay(office, number, 0, 5).is(k == 1 ? FAILED : 1);
            }
            x.pay(office, Watch.numberOf(3 * office + 1), 0, 5).is(1);
            x.all(6).is(office + 1);
            x.all(7).is(office + 1);
        }
    }
}
