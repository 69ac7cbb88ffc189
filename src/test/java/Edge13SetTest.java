/** Promise 13 at its boundaries. */
public final class Edge13SetTest implements Answers {
    private static final String OUTSIDES = "OUTSIDE (office 0 .. 7, currency 0 .. 3; cents 1000000000 at most "
        + "either way, limit -1 .. 1000000000, rate 1 .. 100000; another what)";

    public static void main(String[] args) {
        officesOfTills();
        officesOfLimits();
        currencies();
        mostCents();
        leastCents();
        tillHasLess();
        nothing();
        limits();
        noLimit();
        rates();
        otherWhats();
        Edge.end();
    }

    private static void officesOfTills() {
        Edge x = new Edge(13, OUTSIDES);
        x.set(0, Integer.MIN_VALUE, 5).is(OUTSIDE);
        x.set(0, -1, 5).is(OUTSIDE);
        x.set(0, 0, 5).is(1);
        x.set(0, 1, 6).is(1);
        x.set(0, 6, 7).is(1);
        x.set(0, 7, 8).is(1);
        x.set(0, 8, 9).is(OUTSIDE);
        x.set(0, Integer.MAX_VALUE, 9).is(OUTSIDE);
        x.till(0).is(5);
        x.till(1).is(6);
        x.till(6).is(7);
        x.till(7).is(8);
        x.all(5).is(26);
    }

    private static void officesOfLimits() {
        Edge x = new Edge(13, OUTSIDES);
        for (int office = 0; office < 8; office++) {
            x.order(office, 10, 50, 0, 0).is(Watch.numberOf(office + 1));
        }
        x.set(1, Integer.MIN_VALUE, 9).is(OUTSIDE);
        x.set(1, -1, 9).is(OUTSIDE);
        x.set(1, 8, 9).is(OUTSIDE);
        x.set(1, Integer.MAX_VALUE, 9).is(OUTSIDE);
        x.set(1, 0, 9).is(1);
        x.set(1, 7, 9).is(1);
        x.pay(0, 12, 0, 5).is(LIMITED);
        x.pay(1, 24, 0, 5).is(1);
        x.pay(6, 74, 0, 5).is(1);
        x.pay(7, 86, 0, 5).is(LIMITED);
    }

    private static void currencies() {
        Edge x = new Edge(13, "or a currency's rate (what 2, office: the currency): 1");
        for (int currency = 0; currency < 4; currency++) {
            x.order(0, 1000, 50, currency, 0).is(Watch.numberOf(currency + 1));
        }
        x.set(2, Integer.MIN_VALUE, 5).is(OUTSIDE);
        x.set(2, -1, 5).is(OUTSIDE);
        x.set(2, 0, 5).is(1);
        x.set(2, 1, 6).is(1);
        x.set(2, 2, 7).is(1);
        x.set(2, 3, 8).is(1);
        x.set(2, 4, 9).is(OUTSIDE);
        // An office may be 7, a currency not.
        x.set(2, 7, 9).is(OUTSIDE);
        x.set(2, Integer.MAX_VALUE, 9).is(OUTSIDE);
        x.about(12, 5).is(5);
        x.about(24, 5).is(6);
        x.about(36, 5).is(7);
        x.about(48, 5).is(8);
    }

    private static void mostCents() {
        Edge x = new Edge(13, OUTSIDES);
        x.set(0, 0, 999999999).is(1);
        x.set(0, 1, 1000000000).is(1);
        x.set(0, 2, 1000000001).is(OUTSIDE);
        x.set(0, 2, 4294967297L).is(OUTSIDE);
        x.set(0, 2, Long.MAX_VALUE).is(OUTSIDE);
        x.till(0).is(999999999);
        x.till(1).is(1000000000);
        x.till(2).is(0);
        // A till itself has no bound.
        x.set(0, 1, 1000000000).is(1);
        x.set(0, 1, 1000000000).is(1);
        x.till(1).is(3000000000L);
        x.all(5).is(3999999999L);
    }

    private static void leastCents() {
        Edge x = new Edge(13, OUTSIDES);
        for (int i = 0; i < 3; i++) {
            x.set(0, 4, 1000000000).is(1);
        }
        x.set(0, 4, -1000000001).is(OUTSIDE);
        x.set(0, 4, -4294967297L).is(OUTSIDE);
        x.set(0, 4, Long.MIN_VALUE).is(OUTSIDE);
        x.till(4).is(3000000000L);
        x.set(0, 4, -1000000000).is(1);
        x.till(4).is(2000000000);
        x.set(0, 4, -999999999).is(1);
        x.till(4).is(1000000001);
        x.all(5).is(1000000001);
    }

    private static void tillHasLess() {
        int[] given = {99, 100, 101};
        for (int cents : given) {
            Edge x = new Edge(13, "STATE (the till has less)");
            x.set(0, 4, 100).is(1);
            x.set(0, 3, 1000).is(1);
            x.set(0, 4, -cents).is(cents > 100 ? STATE : 1);
            x.till(4).is(cents > 100 ? 100 : 100 - cents);
            x.all(5).is(cents > 100 ? 1100 : 1100 - cents);
        }
        Edge x = new Edge(13, "STATE (the till has less)");
        x.set(0, 4, -1).is(STATE);
        x.set(0, 4, -1000000000).is(STATE);
        x.set(0, 4, -1000000001).is(OUTSIDE);
        x.till(4).is(0);
    }

    private static void nothing() {
        Edge x = new Edge(13, "An office's till gets cents (below 0: gives)");
        x.set(0, 4, 0).is(1);
        x.till(4).is(0);
        x.set(0, 4, 1).is(1);
        x.till(4).is(1);
        x.set(0, 4, -1).is(1);
        x.till(4).is(0);
        x.set(0, 4, -1).is(STATE);
        x.all(5).is(0);
        // Cents that were paid in may be given too: all(5) goes below 0 then.
        x.orders(1, 4, 50);
        x.set(0, 4, -1).is(1);
        x.till(4).is(0);
        x.all(5).is(-1);
    }

    private static void limits() {
        Edge x = new Edge(13, OUTSIDES);
        x.order(4, 500000, 50, 3, 0).is(12);
        x.order(4, 1, 50, 0, 0).is(24);
        x.set(1, 4, 0).is(1);
        x.set(1, 4, Long.MIN_VALUE).is(OUTSIDE);
        x.set(1, 4, -2).is(OUTSIDE);
        x.set(1, 4, 1000000001).is(OUTSIDE);
        x.set(1, 4, 4294967297L).is(OUTSIDE);
        x.set(1, 4, Long.MAX_VALUE).is(OUTSIDE);
        x.pay(4, 24, 0, 5).is(LIMITED);
        x.set(1, 4, 1).is(1);
        x.pay(4, 12, 0, 5).is(LIMITED);
        x.set(1, 4, 1000000000).is(1);
        x.set(1, 4, 999999999).is(1);
        x.pay(4, 12, 0, 5).is(1);
        x.pay(4, 24, 0, 5).is(1);
        x.till(4).is(0);
        x.all(5).is(0);
    }

    private static void noLimit() {
        for (int limit = -1; limit <= 1; limit++) {
            Edge x = new Edge(13, "its limit is another one (what 1; -1 for none)");
            x.order(4, 1, 50, 0, 0).is(12);
            x.order(4, 1, 50, 0, 0).is(24);
            x.set(1, 4, limit == 0 ? 5 : 0).is(1);
            x.set(1, 4, limit).is(1);
            x.pay(4, 12, 0, 5).is(limit == 0 ? LIMITED : 1);
            x.pay(4, 24, 0, 5).is(limit == -1 ? 1 : LIMITED);
        }
        Edge x = new Edge(13, "its limit is another one (what 1; -1 for none)");
        x.orders(4, 4, 50);
        x.pay(4, 12, 0, 5).is(1);
        // What was paid out before the limit came counts for the day.
        x.set(1, 4, 1).is(1);
        x.pay(4, 24, 0, 5).is(LIMITED);
        x.set(1, 4, 2).is(1);
        x.pay(4, 24, 0, 5).is(1);
        x.set(1, 4, 0).is(1);
        x.pay(4, 36, 0, 5).is(LIMITED);
        x.set(1, 4, -1).is(1);
        x.pay(4, 36, 0, 5).is(1);
        x.set(1, 4, 3).is(1);
        x.pay(4, 48, 0, 5).is(LIMITED);
    }

    private static void rates() {
        Edge x = new Edge(13, OUTSIDES);
        x.order(0, 500000, 50, 2, 0).is(12);
        x.set(2, 2, Long.MIN_VALUE).is(OUTSIDE);
        x.set(2, 2, -1).is(OUTSIDE);
        x.set(2, 2, 0).is(OUTSIDE);
        x.about(12, 5).is(500000);
        x.set(2, 2, 1).is(1);
        x.about(12, 5).is(500);
        x.set(2, 2, 2).is(1);
        x.about(12, 5).is(1000);
        x.set(2, 2, 99999).is(1);
        x.about(12, 5).is(49999500);
        x.set(2, 2, 100000).is(1);
        x.about(12, 5).is(50000000);
        x.set(2, 2, 100001).is(OUTSIDE);
        x.set(2, 2, 4294967297L).is(OUTSIDE);
        x.set(2, 2, Long.MAX_VALUE).is(OUTSIDE);
        x.about(12, 5).is(50000000);
        // A rate changes no till.
        x.till(0).is(500000);
        x.all(0).is(500000);
        x.all(5).is(0);
    }

    private static void otherWhats() {
        Edge x = new Edge(13, OUTSIDES);
        x.orders(1, 0, 50);
        x.set(Integer.MIN_VALUE, 0, 5).is(OUTSIDE);
        x.set(-1, 0, 5).is(OUTSIDE);
        x.set(3, 0, 5).is(OUTSIDE);
        x.set(4, 0, 5).is(OUTSIDE);
        x.set(Integer.MAX_VALUE, 0, 5).is(OUTSIDE);
        x.till(0).is(1);
        x.about(12, 5).is(1);
        x.set(0, 0, 5).is(1);
        x.till(0).is(6);
        x.set(1, 0, 5).is(1);
        x.set(2, 0, 2000).is(1);
        x.about(12, 5).is(2);
        x.pay(0, 12, 0, 5).is(1);
        x.till(0).is(4);
    }
}
