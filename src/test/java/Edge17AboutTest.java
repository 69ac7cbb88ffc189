/** Promise 17 at its boundaries. */
public final class Edge17AboutTest implements Answers {
    public static void main(String[] args) {
        whats();
        unknownNumbers();
        states();
        places();
        paidOutOrNone();
        listedOrNone();
        sumsAreCut();
        sumsByTheRateAsItIs();
        Edge.end();
    }

    private static void whats() {
        Edge x = new Edge(17, "UNKNOWN, OUTSIDE.");
        x.order(6, 77, 50, 0, 0).is(12);
        x.about(12, Integer.MIN_VALUE).is(OUTSIDE);
        x.about(12, -1).is(OUTSIDE);
        x.about(12, 0).is(0);
        x.about(12, 1).is(77);
        x.about(12, 2).is(6);
        x.about(12, 3).is(NONE);
        x.about(12, 4).is(NONE);
        x.about(12, 5).is(77);
        x.about(12, 6).is(OUTSIDE);
        x.about(12, Integer.MAX_VALUE).is(OUTSIDE);
    }

    private static void unknownNumbers() {
        Edge x = new Edge(17, "UNKNOWN, OUTSIDE.");
        x.about(12, 0).is(UNKNOWN);
        x.orders(2, 0, 50);
        for (int what = 0; what <= 5; what++) {
            x.about(23, what).is(UNKNOWN);
            x.about(25, what).is(UNKNOWN);
            x.about(36, what).is(UNKNOWN);
            x.about(24 + 4294967296L, what).is(UNKNOWN);
            x.about(Long.MIN_VALUE, what).is(UNKNOWN);
            x.about(Long.MAX_VALUE, what).is(UNKNOWN);
        }
        x.about(23, -1).is(UNKNOWN);
        x.about(23, 6).is(UNKNOWN);
    }

    private static void states() {
        Edge x = new Edge(17, "what = 0 its state (0 open, 1 paid, 2 barred, 3 back, 4 replaced)");
        x.orders(4, 0, 50);
        x.order(0, 1, 5, 0, 0).is(50);
        x.pay(0, 24, 0, 5).is(1);
        x.bar(36, 5).is(1);
        x.tick(6).is(1);
        x.replace(48).is(62);
        x.about(12, 0).is(0);
        x.about(24, 0).is(1);
        x.about(36, 0).is(2);
        x.about(50, 0).is(3);
        x.about(48, 0).is(4);
    }

    private static void places() {
        Edge x = new Edge(17, "2 where it was paid in, 3 where it was paid out, or NONE");
        x.order(0, 10, 50, 0, 0).is(12);
        x.order(7, 10, 50, 0, 0).is(24);
        x.about(12, 2).is(0);
        x.about(24, 2).is(7);
        x.pay(7, 12, 0, 5).is(1);
        x.pay(0, 24, 0, 5).is(1);
        x.about(12, 2).is(0);
        x.about(12, 3).is(7);
        x.about(24, 2).is(7);
        x.about(24, 3).is(0);
    }

    private static void paidOutOrNone() {
        Edge x = new Edge(17, "3 where it was paid out, or NONE");
        x.orders(3, 0, 50);
        x.order(0, 1, 5, 0, 0).is(48);
        x.fails(0, 5).is(1);
        x.pay(0, 12, 0, 5).is(FAILED);
        x.about(12, 3).is(NONE);
        x.bar(24, 5).is(1);
        x.replace(36).is(50);
        x.tick(6).is(1);
        x.about(24, 3).is(NONE);
        x.about(36, 3).is(NONE);
        x.about(48, 3).is(NONE);
        x.pay(0, 12, 0, 5).is(1);
        x.about(12, 3).is(0);
    }

    private static void listedOrNone() {
        Edge x = new Edge(17, "4 the office on whose list it is, or NONE");
        x.orders(3, 3, 50);
        x.about(12, 4).is(NONE);
        x.list(0, 12).is(1);
        x.list(7, 24).is(1);
        x.about(12, 4).is(0);
        x.about(24, 4).is(7);
        x.about(36, 4).is(NONE);
        x.set(0, 0, 1).is(1);
        x.pay(0, 12, 0, 5).is(1);
        x.about(12, 4).is(NONE);
    }

    private static void sumsAreCut() {
        Edge x = new Edge(17, "an order's SUM is its cents times the rate by 1000 (cut)");
        x.order(0, 1, 50, 0, 0).is(12);
        x.order(0, 999, 50, 1, 0).is(24);
        x.order(0, 1000, 50, 1, 0).is(36);
        x.order(0, 1001, 50, 1, 0).is(48);
        x.order(0, 500000, 50, 2, 0).is(50);
        long[][] rateAndSum = {{999, 0}, {1000, 1}, {1001, 1}, {1999, 1}, {2000, 2}, {2001, 2}};
        for (long[] row : rateAndSum) {
            x.set(2, 0, row[0]).is(1);
            x.about(12, 5).is(row[1]);
        }
        x.set(2, 1, 1).is(1);
        x.about(24, 5).is(0);
        x.about(36, 5).is(1);
        x.about(48, 5).is(1);
        x.set(2, 1, 1500).is(1);
        x.about(24, 5).is(1498);
        x.about(36, 5).is(1500);
        x.about(48, 5).is(1501);
        x.set(2, 2, 100000).is(1);
        x.about(50, 5).is(50000000);
    }

    private static void sumsByTheRateAsItIs() {
        Edge x = new Edge(17, "5 its SUM by the rate as it is");
        x.order(0, 1000, 50, 1, 0).is(12);
        x.order(0, 1000, 50, 2, 0).is(24);
        x.pay(0, 12, 0, 5).is(1);
        x.all(1).is(1000);
        x.set(2, 1, 3000).is(1);
        // A paid order's sum goes with the rate too; what was paid out does not.
        x.about(12, 5).is(3000);
        x.about(12, 1).is(1000);
        x.about(24, 5).is(1000);
        x.all(1).is(1000);
        x.till(0).is(1000);
    }
}
