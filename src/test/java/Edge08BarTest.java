/** Promise 8 at its boundaries. */
public final class Edge08BarTest implements Answers {
    public static void main(String[] args) {
        times();
        unknownNumbers();
        openOnesAlone();
        onNoList();
        barredFromThen();
        Edge.end();
    }

    private static void times() {
        Edge x = new Edge(8, "OUTSIDE (t below 0)");
        x.orders(4, 0, 50);
        x.bar(12, Long.MIN_VALUE).is(OUTSIDE);
        x.bar(12, -1).is(OUTSIDE);
        x.about(12, 0).is(OPEN);
        x.bar(12, 0).is(1);
        x.bar(24, 1).is(1);
        // The order's own time bounds no bar.
        x.bar(36, 51).is(1);
        x.bar(48, Long.MAX_VALUE).is(1);
        x.since(12).is(0);
        x.since(24).is(1);
        x.since(36).is(51);
        x.since(48).is(Long.MAX_VALUE);
    }

    private static void unknownNumbers() {
        Edge x = new Edge(8, "UNKNOWN, OUTSIDE (t below 0), STATE.");
        x.bar(12, 5).is(UNKNOWN);
        x.orders(1, 0, 50);
        x.bar(11, 5).is(UNKNOWN);
        x.bar(13, 5).is(UNKNOWN);
        x.bar(24, 5).is(UNKNOWN);
        x.bar(12 + 4294967296L, 5).is(UNKNOWN);
        x.bar(12, 5).is(1);
    }

    private static void openOnesAlone() {
        Edge x = new Edge(8, "UNKNOWN, OUTSIDE (t below 0), STATE.");
        x.orders(4, 0, 50);
        x.order(0, 1, 5, 0, 0).is(50);
        x.pay(0, 12, 0, 5).is(1);
        x.bar(24, 7).is(1);
        x.replace(36).is(62);
        x.tick(6).is(1);
        x.bar(12, 8).is(STATE);
        x.bar(24, 8).is(STATE);
        x.bar(24, 7).is(STATE);
        x.bar(36, 8).is(STATE);
        x.bar(50, 8).is(STATE);
        x.bar(48, 8).is(1);
        x.bar(62, 8).is(1);
        x.since(12).is(NONE);
        x.since(24).is(7);
        x.since(36).is(NONE);
        x.since(50).is(NONE);
    }

    private static void onNoList() {
        Edge x = new Edge(8, "BARRED (since some time; on no list)");
        x.orders(10, 0, 50);
        for (int n = 1; n <= 8; n++) {
            x.list(3, Watch.numberOf(n)).is(n);
        }
        x.list(3, 98).is(ROOM);
        x.bar(12, 5).is(1);
        x.about(12, 0).is(BARRED);
        x.about(12, 4).is(NONE);
        x.about(24, 4).is(3);
        x.list(3, 98).is(8);
        x.list(3, 103).is(ROOM);
        x.list(3, 12).is(STATE);
        // One that was on no list leaves none.
        x.bar(103, 5).is(1);
        x.bar(24, 5).is(1);
        x.bar(36, 5).is(1);
        x.order(0, 1, 50, 0, 0).is(115);
        x.list(3, 115).is(7);
    }

    private static void barredFromThen() {
        Edge x = new Edge(8, "An open order is barred from t on: 1");
        x.orders(1, 0, 50);
        x.bar(12, 5).is(1);
        x.about(12, 0).is(BARRED);
        // A barred order is not open, so it is paid for no t.
        x.pay(0, 12, 0, 4).is(STATE);
        x.pay(0, 12, 0, 5).is(STATE);
        x.pay(0, 12, 0, 6).is(STATE);
        x.till(0).is(1);
    }
}
