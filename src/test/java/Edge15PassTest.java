/** Promise 15 at its boundaries. */
public final class Edge15PassTest implements Answers {
    private static final String PASSED_ON = "PASSED ON up to a day: each such sum (as they came), "
        + "whose office has so much in its till, goes out of it; others stay";

    public static void main(String[] args) {
        days();
        upToADay();
        soMuchInItsTill();
        anEmptyTill();
        asTheyCame();
        othersStayAsTheyCame();
        itsOwnOffice();
        noneWaits();
        Edge.end();
    }

    private static void days() {
        Edge x = new Edge(15, "OUTSIDE.");
        x.collect(0, 5, 0).is(1);
        x.collect(0, 5, 9999).is(2);
        x.pass(Integer.MIN_VALUE).is(OUTSIDE);
        x.pass(-1).is(OUTSIDE);
        x.pass(10000).is(OUTSIDE);
        x.pass(Integer.MAX_VALUE).is(OUTSIDE);
        x.till(0).is(10);
        x.pass(0).is(1);
        x.pass(1).is(0);
        x.pass(9998).is(0);
        x.pass(9999).is(1);
        x.till(0).is(0);
    }

    private static void upToADay() {
        for (int day = 4; day <= 7; day++) {
            Edge x = new Edge(15, PASSED_ON);
            x.collect(0, 100, 6).is(1);
            x.collect(0, 10, 5).is(2);
            x.collect(0, 1, 7).is(3);
            x.pass(day).is(day - 4);
            long[] left = {111, 101, 1, 0};
            x.till(0).is(left[day - 4]);
            x.all(3).is(111 - left[day - 4]);
            x.pass(day).is(0);
            x.collect(1, 5, 1).is(8 - day);
        }
    }

    private static void soMuchInItsTill() {
        for (int cents = 99; cents <= 101; cents++) {
            Edge x = new Edge(15, PASSED_ON);
            x.collect(3, 100, 5).is(1);
            x.set(0, 3, cents - 100).is(1);
            x.set(0, 2, 1000).is(1);
            x.pass(5).is(cents < 100 ? 0 : 1);
            x.till(3).is(cents < 100 ? cents : cents - 100);
            x.all(3).is(cents < 100 ? 0 : 100);
            x.collect(3, 1, 5).is(cents < 100 ? 2 : 1);
        }
    }

    private static void anEmptyTill() {
        Edge x = new Edge(15, PASSED_ON);
        x.collect(3, 1, 5).is(1);
        x.set(0, 3, -1).is(1);
        x.pass(5).is(0);
        x.till(3).is(0);
        x.set(0, 3, 1).is(1);
        x.pass(5).is(1);
        x.till(3).is(0);
    }

    private static void asTheyCame() {
        Edge x = new Edge(15, PASSED_ON);
        x.collect(3, 60, 9).is(1);
        x.collect(3, 50, 5).is(2);
        x.collect(3, 40, 7).is(3);
        x.set(0, 3, -50).is(1);
        // 60 goes, though its day is the last; 50 is more than the 40 that are left; 40 goes.
        x.pass(9).is(2);
        x.till(3).is(0);
        x.all(3).is(100);
        x.set(0, 3, 50).is(1);
        x.pass(4).is(0);
        x.pass(5).is(1);
        x.all(3).is(150);
    }

    private static void othersStayAsTheyCame() {
        Edge x = new Edge(15, "others stay");
        x.collect(3, 10, 1).is(1);
        x.collect(3, 60, 9).is(2);
        x.collect(3, 10, 1).is(3);
        x.collect(3, 50, 9).is(4);
        x.collect(3, 40, 9).is(5);
        x.pass(1).is(2);
        x.set(0, 3, -50).is(1);
        x.till(3).is(100);
        x.collect(3, 1, 9).is(4);
        x.set(0, 3, -1).is(1);
        x.pass(9).is(2);
        x.till(3).is(0);
        x.all(3).is(120);
        // What is left are the 50 and then the 1.
        x.set(0, 3, 50).is(1);
        x.pass(9).is(1);
        x.all(3).is(170);
        x.set(0, 3, 1).is(1);
        x.pass(9).is(1);
        x.all(3).is(171);
    }

    private static void itsOwnOffice() {
        Edge x = new Edge(15, "whose office has so much in its till, goes out of it");
        x.collect(0, 5, 1).is(1);
        x.collect(7, 7, 1).is(2);
        x.set(0, 0, -5).is(1);
        x.pass(1).is(1);
        x.till(0).is(0);
        x.till(7).is(0);
        x.all(3).is(7);
    }

    private static void noneWaits() {
        Edge x = new Edge(15, "Collected sums up to a day are PASSED ON: how many");
        x.set(0, 0, 100).is(1);
        x.orders(1, 0, 50);
        x.pass(0).is(0);
        x.pass(9999).is(0);
        x.till(0).is(101);
        x.collect(0, 5, 9999).is(1);
        x.pass(9999).is(1);
        x.pass(9999).is(0);
        x.till(0).is(101);
    }
}
