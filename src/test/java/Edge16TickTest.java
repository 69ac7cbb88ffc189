/** Promise 16 at its boundaries. */
public final class Edge16TickTest implements Answers {
    private static final String BACKS = "BACK: orders that are open or barred with UNTIL before a time, "
        + "in the order of their numbers";
    private static final String CENTS = "the cents (no rate) go out of the till where they were paid in, "
        + "if it has so much, and the order is on no list (else it stays as it is)";

    public static void main(String[] args) {
        times();
        untilBeforeATime();
        untilAtTheEnds();
        openOrBarredAlone();
        inTheOrderOfNumbers();
        soMuchInTheTill();
        staysAsItIs();
        noRate();
        wherePaidIn();
        onNoList();
        Edge.end();
    }

    private static void times() {
        Edge x = new Edge(16, "OUTSIDE (t below 0)");
        x.orders(1, 0, 0);
        x.tick(Long.MIN_VALUE).is(OUTSIDE);
        x.tick(-1).is(OUTSIDE);
        x.tick(0).is(0);
        x.about(12, 0).is(OPEN);
        x.tick(1).is(1);
        x.about(12, 0).is(BACK);
        x.tick(1).is(0);
        x.till(0).is(0);
    }

    private static void untilBeforeATime() {
        for (long t = 49; t <= 52; t++) {
            Edge x = new Edge(16, BACKS);
            x.order(0, 1, 50, 0, 0).is(12);
            x.order(0, 2, 49, 0, 0).is(24);
            x.order(0, 4, 51, 0, 0).is(36);
            x.tick(t).is(t - 49);
            x.about(24, 0).is(t > 49 ? BACK : OPEN);
            x.about(12, 0).is(t > 50 ? BACK : OPEN);
            x.about(36, 0).is(t > 51 ? BACK : OPEN);
            long[] gone = {0, 2, 3, 7};
            x.till(0).is(7 - gone[(int) (t - 49)]);
            x.all(4).is(gone[(int) (t - 49)]);
        }
    }

    private static void untilAtTheEnds() {
        Edge x = new Edge(16, BACKS);
        x.orders(1, 0, Long.MAX_VALUE);
        x.orders(1, 0, Long.MAX_VALUE - 1);
        x.tick(Long.MAX_VALUE - 1).is(0);
        x.tick(Long.MAX_VALUE).is(1);
        x.about(12, 0).is(OPEN);
        x.about(24, 0).is(BACK);
        // What never goes back may still be paid at its last time.
        x.pay(0, 12, 0, Long.MAX_VALUE).is(1);
    }

    private static void openOrBarredAlone() {
        Edge x = new Edge(16, "Orders go BACK: how many");
        x.orders(4, 0, 50);
        x.set(0, 0, 100).is(1);
        x.pay(0, 12, 0, 5).is(1);
        // The bar's time is none that a tick looks at.
        x.bar(24, 99).is(1);
        x.replace(36).is(50);
        x.tick(50).is(0);
        x.tick(51).is(3);
        x.about(12, 0).is(PAID);
        x.about(24, 0).is(BACK);
        x.about(36, 0).is(REPLACED);
        x.about(48, 0).is(BACK);
        x.about(50, 0).is(BACK);
        x.tick(52).is(0);
        x.till(0).is(100);
        x.all(4).is(3);
    }

    private static void inTheOrderOfNumbers() {
        Edge x = new Edge(16, BACKS);
        x.order(0, 60, 9, 0, 0).is(12);
        x.order(0, 50, 5, 0, 0).is(24);
        x.order(0, 40, 7, 0, 0).is(36);
        x.bar(36, 5).is(1);
        x.set(0, 0, -50).is(1);
        // 60 goes, though its time is the last; 50 is more than the 40 that are left; 40 goes.
        x.tick(10).is(2);
        x.about(12, 0).is(BACK);
        x.about(24, 0).is(OPEN);
        x.about(36, 0).is(BACK);
        x.till(0).is(0);
        x.set(0, 0, 50).is(1);
        x.tick(10).is(1);
        x.about(24, 0).is(BACK);
        x.all(4).is(150);
    }

    private static void soMuchInTheTill() {
        for (int cents = 99; cents <= 101; cents++) {
            Edge x = new Edge(16, CENTS);
            x.order(3, 100, 9, 0, 0).is(12);
            x.set(0, 3, cents - 100).is(1);
            x.tick(10).is(cents < 100 ? 0 : 1);
            x.about(12, 0).is(cents < 100 ? OPEN : BACK);
            x.till(3).is(cents < 100 ? cents : cents - 100);
            x.all(4).is(cents < 100 ? 0 : 100);
        }
    }

    private static void staysAsItIs() {
        Edge x = new Edge(16, "(else it stays as it is)");
        x.order(3, 100, 9, 0, 0).is(12);
        x.order(3, 100, 9, 0, 0).is(24);
        x.order(3, 1, 50, 0, 0).is(36);
        x.list(5, 12).is(1);
        x.bar(24, 7).is(1);
        x.set(0, 3, -102).is(1);
        x.tick(10).is(0);
        x.about(12, 0).is(OPEN);
        x.about(12, 4).is(5);
        x.about(24, 0).is(BARRED);
        x.since(24).is(7);
        x.list(5, 36).is(2);
        // It is open still, and a time that is not above its own pays it.
        x.set(0, 5, 100).is(1);
        x.pay(5, 12, 0, 9).is(1);
    }

    private static void noRate() {
        int[] rates = {1, 999, 1001, 100000};
        for (int rate : rates) {
            Edge x = new Edge(16, CENTS);
            x.order(3, 1000, 9, 2, 0).is(12);
            x.set(2, 2, rate).is(1);
            x.tick(10).is(1);
            x.till(3).is(0);
            x.all(4).is(1000);
        }
    }

    private static void wherePaidIn() {
        Edge x = new Edge(16, CENTS);
        for (int office = 0; office < 8; office++) {
            x.order(office, 10 + office, 9, 0, 0).is(Watch.numberOf(office + 1));
        }
        x.list(0, 86).is(1);
        x.list(7, 12).is(1);
        // Offices that are cut off give back what was paid in at them.
        x.cut(3, true).is(1);
        x.set(0, 5, -1).is(1);
        x.tick(10).is(7);
        for (int office = 0; office < 8; office++) {
            x.till(office).is(office == 5 ? 14 : 0);
        }
        x.about(12, 3).is(NONE);
        x.about(62, 0).is(OPEN);
        x.all(4).is(93);
    }

    private static void onNoList() {
        Edge x = new Edge(16, "the order is on no list");
        x.orders(1, 3, 9);
        x.orders(8, 3, 50);
        for (int n = 1; n <= 8; n++) {
            x.list(5, Watch.numberOf(n)).is(n);
        }
        x.list(5, 98).is(ROOM);
        x.tick(9).is(0);
        x.list(5, 98).is(ROOM);
        x.tick(10).is(1);
        x.about(12, 4).is(NONE);
        x.about(24, 4).is(5);
        x.list(5, 98).is(8);
    }
}
