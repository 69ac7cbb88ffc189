/** Promise 9 at its boundaries. */
public final class Edge09SinceTest implements Answers {
    public static void main(String[] args) {
        neverBarred();
        sinceTheFirstTime();
        beforeItWentBack();
        beforeItWasReplaced();
        unknownNumbers();
        Edge.end();
    }

    private static void neverBarred() {
        Edge x = new Edge(9, "NONE if it never was");
        x.orders(3, 0, 50);
        x.order(0, 1, 5, 0, 0).is(48);
        x.pay(0, 12, 0, 5).is(1);
        x.replace(24).is(50);
        x.tick(6).is(1);
        x.since(12).is(NONE);
        x.since(24).is(NONE);
        x.since(36).is(NONE);
        x.since(48).is(NONE);
        x.since(50).is(NONE);
        x.bar(36, -1).is(OUTSIDE);
        x.since(36).is(NONE);
        x.bar(12, 5).is(STATE);
        x.since(12).is(NONE);
    }

    private static void sinceTheFirstTime() {
        Edge x = new Edge(9, "Since when it is barred");
        x.orders(3, 0, 50);
        x.bar(12, 0).is(1);
        x.bar(24, 1).is(1);
        x.bar(36, Long.MAX_VALUE).is(1);
        x.since(12).is(0);
        x.since(24).is(1);
        x.since(36).is(Long.MAX_VALUE);
        x.bar(24, 9).is(STATE);
        x.since(24).is(1);
    }

    private static void beforeItWentBack() {
        Edge x = new Edge(9, "(or was, before it went back or was replaced)");
        x.orders(1, 0, 50);
        x.bar(12, 0).is(1);
        x.tick(50).is(0);
        x.since(12).is(0);
        x.tick(51).is(1);
        x.about(12, 0).is(BACK);
        x.since(12).is(0);
    }

    private static void beforeItWasReplaced() {
        Edge x = new Edge(9, "(or was, before it went back or was replaced)");
        x.orders(1, 0, 50);
        x.bar(12, 7).is(1);
        x.replace(12).is(24);
        x.about(12, 0).is(REPLACED);
        x.since(12).is(7);
        x.since(24).is(NONE);
        x.bar(24, 8).is(1);
        x.since(12).is(7);
        x.since(24).is(8);
    }

    private static void unknownNumbers() {
        Edge x = new Edge(9, "UNKNOWN.");
        x.since(12).is(UNKNOWN);
        x.orders(1, 0, 50);
        x.since(11).is(UNKNOWN);
        x.since(12).is(NONE);
        x.since(13).is(UNKNOWN);
        x.since(0).is(UNKNOWN);
        x.since(24).is(UNKNOWN);
        x.since(12 + 4294967296L).is(UNKNOWN);
        x.since(Long.MIN_VALUE).is(UNKNOWN);
        x.since(Long.MAX_VALUE).is(UNKNOWN);
    }
}
