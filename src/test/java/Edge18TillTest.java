/** Promise 18 at its boundaries. */
public final class Edge18TillTest implements Answers {
    public static void main(String[] args) {
        offices();
        aboveAnInt();
        downToNothing();
        Edge.end();
    }

    private static void offices() {
        Edge x = new Edge(18, "OUTSIDE.");
        for (int office = 0; office < 8; office++) {
            x.set(0, office, 100 + office).is(1);
        }
        x.till(Integer.MIN_VALUE).is(OUTSIDE);
        x.till(-1).is(OUTSIDE);
        for (int office = 0; office < 8; office++) {
            x.till(office).is(100 + office);
        }
        x.till(8).is(OUTSIDE);
        x.till(Integer.MAX_VALUE).is(OUTSIDE);
    }

    private static void aboveAnInt() {
        Edge x = new Edge(18, "An office's till.");
        x.set(0, 4, 1000000000).is(1);
        x.set(0, 4, 1000000000).is(1);
        x.set(0, 4, 147483647).is(1);
        x.till(4).is(Integer.MAX_VALUE);
        x.orders(1, 4, 50);
        x.till(4).is(2147483648L);
        x.collect(4, 1, 1).is(1);
        x.till(4).is(2147483649L);
        for (int i = 0; i < 500; i++) {
            x.set(0, 4, 1000000000).is(1);
        }
        x.till(4).is(502147483649L);
    }

    private static void downToNothing() {
        Edge x = new Edge(18, "An office's till.");
        x.order(4, 2, 50, 0, 0).is(12);
        x.till(4).is(2);
        x.set(0, 4, -1).is(1);
        x.till(4).is(1);
        x.pay(4, 12, 0, 5).is(POOR);
        x.till(4).is(1);
        x.set(0, 4, -1).is(1);
        x.till(4).is(0);
        x.set(0, 4, -1).is(STATE);
        x.till(4).is(0);
    }
}
