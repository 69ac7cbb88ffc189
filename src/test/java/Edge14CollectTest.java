/** Promise 14 at its boundaries. */
public final class Edge14CollectTest implements Answers {
    public static void main(String[] args) {
        offices();
        cents();
        days();
        comesIntoTheTill();
        room();
        roomAfterPassing();
        Edge.end();
    }

    private static void offices() {
        Edge x = new Edge(14, "OUTSIDE, ROOM (100).");
        x.collect(Integer.MIN_VALUE, 5, 1).is(OUTSIDE);
        x.collect(-1, 5, 1).is(OUTSIDE);
        x.collect(0, 5, 1).is(1);
        x.collect(1, 6, 1).is(2);
        x.collect(6, 7, 1).is(3);
        x.collect(7, 8, 1).is(4);
        x.collect(8, 9, 1).is(OUTSIDE);
        x.collect(Integer.MAX_VALUE, 9, 1).is(OUTSIDE);
        x.till(0).is(5);
        x.till(1).is(6);
        x.till(6).is(7);
        x.till(7).is(8);
        x.all(2).is(26);
    }

    private static void cents() {
        Edge x = new Edge(14, "A collected sum, 1 .. 500000 cents, for a day: how many wait");
        x.collect(0, Long.MIN_VALUE, 1).is(OUTSIDE);
        x.collect(0, -1, 1).is(OUTSIDE);
        x.collect(0, 0, 1).is(OUTSIDE);
        x.collect(0, 1, 1).is(1);
        x.collect(0, 2, 1).is(2);
        x.collect(0, 499999, 1).is(3);
        x.collect(0, 500000, 1).is(4);
        x.collect(0, 500001, 1).is(OUTSIDE);
        x.collect(0, 4294967297L, 1).is(OUTSIDE);
        x.collect(0, Long.MAX_VALUE, 1).is(OUTSIDE);
        x.till(0).is(1000002);
        x.all(2).is(1000002);
    }

    private static void days() {
        Edge x = new Edge(14, "COLLECTED sums come into an office's till, for a day 0 .. 9999");
        x.collect(0, 5, Integer.MIN_VALUE).is(OUTSIDE);
        x.collect(0, 5, -1).is(OUTSIDE);
        x.collect(0, 5, 0).is(1);
        x.collect(0, 5, 1).is(2);
        x.collect(0, 5, 9998).is(3);
        x.collect(0, 5, 9999).is(4);
        x.collect(0, 5, 10000).is(OUTSIDE);
        x.collect(0, 5, Integer.MAX_VALUE).is(OUTSIDE);
        x.till(0).is(20);
        x.pass(0).is(1);
        x.pass(9997).is(1);
        x.pass(9998).is(1);
        x.pass(9999).is(1);
    }

    private static void comesIntoTheTill() {
        Edge x = new Edge(14, "COLLECTED sums come into an office's till");
        x.set(2, 0, 100000).is(1);
        x.collect(4, 500000, 1).is(1);
        x.till(3).is(0);
        x.till(4).is(500000);
        x.till(5).is(0);
        x.all(0).is(0);
        x.all(2).is(500000);
        x.all(5).is(0);
    }

    private static void room() {
        Edge x = new Edge(14, "OUTSIDE, ROOM (100).");
        for (int n = 1; n <= 98; n++) {
            x.collect(n % 8, 5, n).is(n);
        }
        x.collect(0, 5, 1).is(99);
        x.collect(0, 5, 1).is(100);
        x.collect(0, 5, 1).is(ROOM);
        x.collect(7, 500000, 9999).is(ROOM);
        x.all(2).is(500);
        x.pass(9999).is(100);
        x.all(3).is(500);
    }

    private static void roomAfterPassing() {
        Edge x = new Edge(14, "OUTSIDE, ROOM (100).");
        for (int n = 1; n <= 100; n++) {
            x.collect(0, 5, n).is(n);
        }
        x.collect(0, 5, 1).is(ROOM);
        x.pass(0).is(0);
        x.collect(0, 5, 1).is(ROOM);
        x.pass(1).is(1);
        x.collect(0, 5, 200).is(100);
        x.collect(0, 5, 200).is(ROOM);
        x.pass(100).is(99);
        x.collect(0, 5, 200).is(2);
        x.pass(9999).is(2);
        x.collect(0, 5, 200).is(1);
    }
}
