/** Promise 1 at its boundaries, and what the terms say of an object at first. */
public final class Edge01NewObjectTest implements Answers {
    public static void main(String[] args) {
        noOrders();
        tillsOfNothing();
        tillsAreNothingAtFirst();
        noLimitAtFirst();
        notCutOffAtFirst();
        rateAtFirst();
        lastCall();
        Edge.end();
    }

    private static void noOrders() {
        Edge x = new Edge(1, "No orders");
        x.about(0, 0).is(UNKNOWN);
        x.about(12, 0).is(UNKNOWN);
        x.about(24, 0).is(UNKNOWN);
        x.tick(Long.MAX_VALUE).is(0);
        x.serve(1).is(0);
        x.pass(9999).is(0);
        x.order(0, 1, 0, 0, 0).is(12);
        x.about(12, 0).is(OPEN);
        x.about(24, 0).is(UNKNOWN);
    }

    private static void tillsOfNothing() {
        Edge x = new Edge(1, "tills of 0");
        for (int office = 0; office < 8; office++) {
            x.till(office).is(0);
        }
        for (int what = 0; what < 9; what++) {
            x.all(what).is(0);
        }
    }

    private static void tillsAreNothingAtFirst() {
        Edge x = new Edge(1, "each has a TILL in cents (0 at first)");
        for (int office = 0; office < 8; office++) {
            x.set(0, office, -1).is(STATE);
            x.till(office).is(0);
            x.set(0, office, 0).is(1);
            x.till(office).is(0);
            x.set(0, office, 1).is(1);
            x.till(office).is(1);
        }
    }

    private static void noLimitAtFirst() {
        Edge x = new Edge(1, "a LIMIT of what it pays out a day (none at first)");
        // The dearest orders there are, above every limit that can be set.
        x.set(2, 3, 100000).is(1);
        for (int n = 1; n <= 21; n++) {
            x.order(0, 500000, 9, 3, n).is(Watch.numberOf(n));
        }
        x.set(0, 5, 1000000000).is(1);
        x.set(0, 5, 1000000000).is(1);
        for (int n = 1; n <= 21; n++) {
            x.pay(5, Watch.numberOf(n), n, 0).is(1);
        }
        x.all(1).is(1050000000);
    }

    private static void notCutOffAtFirst() {
        Edge x = new Edge(1, "may be CUT off");
        for (int office = 0; office < 8; office++) {
            x.cut(office, false).is(0);
            x.order(office, 5, 9, 0, 0).is(Watch.numberOf(office + 1));
            x.pay(office, Watch.numberOf(office + 1), 0, 9).is(1);
            x.cut(office, true).is(1);
        }
    }

    private static void rateAtFirst() {
        Edge x = new Edge(1, "A currency's RATE is 1000 at first");
        for (int currency = 0; currency < 4; currency++) {
            long number = Watch.numberOf(currency + 1);
            x.order(0, 1000, 9, currency, 0).is(number);
            x.about(number, 5).is(1000);
            x.set(2, currency, 999).is(1);
            x.about(number, 5).is(999);
            x.set(2, currency, 1001).is(1);
            x.about(number, 5).is(1001);
            x.set(2, currency, 1000).is(1);
            x.about(number, 5).is(1000);
        }
    }

    private static void lastCall() {
        Edge x = new Edge(1, "An object is used for at most 512 calls after it has been made");
        for (int n = 1; n <= 300; n++) {
            x.order(0, 1, 9, 0, 0).is(Watch.numberOf(n));
        }
        for (int n = 1; n <= 210; n++) {
            x.pay(0, Watch.numberOf(n), 0, 9).is(1);
        }
        x.pay(0, Watch.numberOf(211), 0, 9).is(1);
        x.till(0).is(89);
        // The next call is free in its answer alone: it ends like every other.
        OrderMoney longer = new OrderMoney();
        for (int call = 0; call < 2000; call++) {
            longer.order(0, 1, 9, 0, 0);
            longer.ask(0, 12, 0, 9);
            longer.serve(1);
            longer.collect(0, 1, 1);
        }
    }
}
