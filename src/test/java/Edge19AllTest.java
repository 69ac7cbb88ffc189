/** Promise 19 at its boundaries. */
public final class Edge19AllTest implements Answers {
    private static final String SUSPECT = "SUSPECT is an office's third payment on one day (of those that it knows) "
        + "with the same proof, and each one more (told once each, counted)";

    public static void main(String[] args) {
        whats();
        paidIn();
        paidOut();
        collectedAndPassedOn();
        goneBack();
        putIntoTills();
        failed();
        suspectFromTheThird();
        suspectOnOneDay();
        suspectOfThoseItKnows();
        suspectWithTheSameProof();
        suspectAtOneOffice();
        suspectByTries();
        held();
        Edge.end();
    }

    private static void whats() {
        Edge x = new Edge(19, "OUTSIDE for others");
        x.all(Integer.MIN_VALUE).is(OUTSIDE);
        x.all(-1).is(OUTSIDE);
        x.all(0).is(0);
        x.all(1).is(0);
        x.all(7).is(0);
        x.all(8).is(0);
        x.all(9).is(OUTSIDE);
        x.all(Integer.MAX_VALUE).is(OUTSIDE);
    }

    private static void paidIn() {
        Edge x = new Edge(19, "0 paid in (an order that replaces another one adds nothing)");
        x.order(0, 0, 50, 0, 0).is(OUTSIDE);
        x.all(0).is(0);
        x.order(0, 1, 50, 0, 0).is(12);
        x.all(0).is(1);
        x.replace(12).is(24);
        x.all(0).is(1);
        x.till(0).is(1);
        x.replace(24).is(36);
        x.all(0).is(1);
        x.pay(0, 36, 0, 5).is(1);
        x.all(0).is(1);
        x.order(0, 500000, 50, 0, 0).is(48);
        x.all(0).is(500001);
        x.order(0, 500001, 50, 0, 0).is(OUTSIDE);
        x.all(0).is(500001);
    }

    private static void paidOut() {
        Edge x = new Edge(19, "1 paid out");
        x.order(0, 1000, 50, 1, 0).is(12);
        x.order(0, 1000, 50, 2, 0).is(24);
        x.set(2, 1, 1001).is(1);
        x.pay(0, 12, 1, 5).is(WRONG);
        x.all(1).is(0);
        x.pay(0, 12, 0, 5).is(1);
        // The sum goes out of the till, so the sum is what is paid out.
        x.all(1).is(1001);
        x.set(2, 1, 1).is(1);
        x.all(1).is(1001);
        x.set(2, 2, 999).is(1);
        x.pay(0, 24, 0, 5).is(1);
        x.all(1).is(2000);
        x.pay(0, 24, 0, 5).is(STATE);
        x.all(1).is(2000);
        x.till(0).is(0);
    }

    private static void collectedAndPassedOn() {
        Edge x = new Edge(19, "2 collected, 3 passed on");
        x.collect(0, 0, 5).is(OUTSIDE);
        x.all(2).is(0);
        x.collect(0, 1, 5).is(1);
        x.all(2).is(1);
        x.all(3).is(0);
        x.collect(0, 500000, 5).is(2);
        x.all(2).is(500001);
        x.pass(4).is(0);
        x.all(3).is(0);
        x.pass(5).is(2);
        x.all(3).is(500001);
        x.all(2).is(500001);
        x.all(0).is(0);
        x.all(1).is(0);
    }

    private static void goneBack() {
        Edge x = new Edge(19, "4 gone back");
        x.order(0, 1, 50, 0, 0).is(12);
        x.order(0, 500000, 51, 0, 0).is(24);
        x.tick(50).is(0);
        x.all(4).is(0);
        x.tick(51).is(1);
        x.all(4).is(1);
        x.tick(52).is(1);
        x.all(4).is(500001);
        x.tick(53).is(0);
        x.all(4).is(500001);
        x.all(0).is(500001);
        x.all(1).is(0);
    }

    private static void putIntoTills() {
        Edge x = new Edge(19, "5 put into tills (less what they gave)");
        x.set(0, 0, -1).is(STATE);
        x.all(5).is(0);
        x.set(0, 0, 0).is(1);
        x.all(5).is(0);
        x.set(0, 0, 1).is(1);
        x.all(5).is(1);
        x.set(0, 1, 1000000000).is(1);
        x.all(5).is(1000000001);
        x.set(0, 1, 1000000001).is(OUTSIDE);
        x.all(5).is(1000000001);
        x.set(0, 1, -1000000000).is(1);
        x.all(5).is(1);
        x.set(1, 1, 7).is(1);
        x.set(2, 1, 7).is(1);
        x.all(5).is(1);
        x.collect(0, 4, 5).is(1);
        x.all(5).is(1);
        x.set(0, 0, -1).is(1);
        x.all(5).is(0);
        x.set(0, 0, -1).is(1);
        x.all(5).is(-1);
    }

    private static void failed() {
        Edge x = new Edge(19, "6 payments that FAILED");
        x.order(0, 100, 50, 0, 0).is(12);
        x.fails(0, 1).is(1);
        x.all(6).is(0);
        x.pay(0, 12, 0, 5).is(FAILED);
        x.all(6).is(1);
        // WRONG, LIMITED and POOR are undone as well, but they are other answers.
        x.pay(0, 12, 1, 5).is(WRONG);
        x.set(1, 0, 99).is(1);
        x.pay(0, 12, 0, 5).is(LIMITED);
        x.pay(1, 12, 0, 5).is(POOR);
        x.pay(0, 12, 0, 51).is(STATE);
        x.all(6).is(1);
        x.fails(0, 2).is(1);
        x.ask(0, 12, 0, 5).is(0);
        x.all(6).is(1);
        x.serve(1).is(1);
        x.all(6).is(2);
    }

    private static void suspectFromTheThird() {
        Edge x = new Edge(19, SUSPECT);
        x.orders(5, 0, 50);
        long[] due = {0, 0, 1, 2, 3};
        for (int n = 1; n <= 5; n++) {
            x.pay(0, Watch.numberOf(n), 0, n).is(1);
            x.all(7).is(due[n - 1]);
        }
    }

    private static void suspectOnOneDay() {
        for (long t = DAY - 1; t <= DAY + 1; t++) {
            Edge x = new Edge(19, SUSPECT);
            x.orders(3, 0, 9 * DAY);
            x.pay(0, 12, 0, 0).is(1);
            x.pay(0, 24, 0, DAY - 1).is(1);
            x.pay(0, 36, 0, t).is(1);
            x.all(7).is(t < DAY ? 1 : 0);
        }
    }

    private static void suspectOfThoseItKnows() {
        long[] others = {4 * DAY, 6 * DAY};
        for (long other : others) {
            Edge x = new Edge(19, SUSPECT);
            x.orders(8, 0, 9 * DAY);
            x.pay(0, 12, 0, 5 * DAY).is(1);
            x.pay(0, 24, 0, 5 * DAY).is(1);
            x.pay(0, 36, 0, other).is(1);
            // The office knows the other day alone, and after this one the fifth day anew.
            x.pay(0, 48, 0, 5 * DAY).is(1);
            x.pay(0, 50, 0, 5 * DAY).is(1);
            x.all(7).is(0);
            x.pay(0, 62, 0, 5 * DAY).is(1);
            x.all(7).is(1);
            x.pay(0, 74, 0, other).is(1);
            x.all(7).is(1);
        }
    }

    private static void suspectWithTheSameProof() {
        Edge x = new Edge(19, SUSPECT);
        int[] proofs = {7, 7, 6, 8, 6, 8, 7, 8, 9};
        long[] due = {0, 0, 0, 0, 0, 0, 1, 2, 2};
        for (int i = 0; i < proofs.length; i++) {
            x.order(0, 1, 50, 0, proofs[i]).is(Watch.numberOf(i + 1));
            x.pay(0, Watch.numberOf(i + 1), proofs[i], 5).is(1);
            x.all(7).is(due[i]);
        }
    }

    private static void suspectAtOneOffice() {
        Edge x = new Edge(19, SUSPECT);
        x.orders(9, 0, 50);
        x.set(0, 1, 100).is(1);
        x.set(0, 2, 100).is(1);
        for (int n = 1; n <= 6; n++) {
            x.pay(n % 3, Watch.numberOf(n), 0, 5).is(1);
            x.all(7).is(0);
        }
        for (int n = 7; n <= 9; n++) {
            x.pay(n % 3, Watch.numberOf(n), 0, 5).is(1);
            x.all(7).is(n - 6);
        }
    }

    private static void suspectByTries() {
        Edge x = new Edge(19, "7 SUSPECT ones");
        x.orders(4, 0, 50);
        x.pay(0, 12, 0, 5).is(1);
        x.pay(0, 24, 0, 5).is(1);
        // A payment that is undone is none of those that count.
        x.fails(0, 5).is(1);
        x.pay(0, 36, 0, 5).is(FAILED);
        x.pay(0, 36, 1, 5).is(WRONG);
        x.all(7).is(0);
        x.ask(0, 36, 0, 5).is(0);
        x.all(7).is(0);
        x.serve(1).is(1);
        x.all(7).is(1);
        x.ask(0, 36, 0, 5).is(1);
        x.serve(1).is(1);
        x.answer(1).is(STATE);
        x.all(7).is(1);
    }

    private static void held() {
        Edge x = new Edge(19, "8 orders that are held");
        x.orders(2, 0, 50);
        x.all(8).is(0);
        x.ask(0, 12, 0, 5).is(0);
        x.all(8).is(0);
        x.fails(0, 1).is(1);
        x.pay(0, 24, 0, 5).is(FAILED);
        x.all(8).is(0);
        x.fails(0, 2).is(1);
        x.pay(0, 24, 0, 5).is(FAILED);
        x.all(8).is(0);
        x.serve(1).is(1);
        x.all(8).is(0);
        x.pay(0, 24, 0, 5).is(1);
        x.all(8).is(0);
    }
}
