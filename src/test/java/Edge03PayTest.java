/** Promise 3 at its boundaries: what refuses a payment, and its five steps. */
public final class Edge03PayTest implements Answers {
    private static final String NO_STATE = "STATE (the order is not open, or t is above UNTIL; "
        + "it is on another office's list; the office is cut off, and it is not on its list)";
    private static final String LIMIT = "3 the office's limit: what it paid out on the day "
        + "(t by 86400, cut) and the sum would be above it: LIMITED";

    public static void main(String[] args) {
        unknownNumbers();
        offices();
        times();
        aboveUntil();
        aboveUntilAtTheEnds();
        notOpen();
        onAnotherOfficesList();
        cutOffAndNotOnItsList();
        atMostOnce();
        anotherProof();
        firstPaymentAtTheLimit();
        secondPaymentAtTheLimit();
        limitOfNothing();
        endOfADay();
        lateDays();
        anotherDayCountsFromNothing();
        anUndonePaymentIsNotTheLatest();
        lessInTheTill();
        theSumNotTheCents();
        writtenAndOnNoList();
        refusedByTheFirst();
        Edge.end();
    }

    private static void unknownNumbers() {
        Edge x = new Edge(3, "UNKNOWN (there is no such number)");
        x.order(0, 10, 9, 0, 0).is(12);
        x.pay(0, 11, 0, 1).is(UNKNOWN);
        x.pay(0, 13, 0, 1).is(UNKNOWN);
        x.pay(0, 0, 0, 1).is(UNKNOWN);
        x.pay(0, 2, 0, 1).is(UNKNOWN);
        x.pay(0, -12, 0, 1).is(UNKNOWN);
        x.pay(0, 12 + 4294967296L, 0, 1).is(UNKNOWN);
        x.pay(0, Long.MIN_VALUE, 0, 1).is(UNKNOWN);
        x.pay(0, Long.MAX_VALUE, 0, 1).is(UNKNOWN);
        x.pay(0, 24, 0, 1).is(UNKNOWN);
        x.pay(0, 12, 0, 1).is(1);
        x.order(0, 10, 9, 0, 0).is(24);
        x.pay(0, 24, 0, 1).is(1);
    }

    private static void offices() {
        Edge x = new Edge(3, "OUTSIDE (office, t below 0)");
        for (int office = 0; office < 8; office++) {
            x.order(office, 10, 9, 0, 0).is(Watch.numberOf(office + 1));
        }
        x.pay(Integer.MIN_VALUE, 12, 0, 1).is(OUTSIDE);
        x.pay(-1, 12, 0, 1).is(OUTSIDE);
        x.pay(0, 12, 0, 1).is(1);
        x.pay(1, 24, 0, 1).is(1);
        x.pay(6, 74, 0, 1).is(1);
        x.pay(8, 86, 0, 1).is(OUTSIDE);
        x.pay(7, 86, 0, 1).is(1);
        x.pay(Integer.MAX_VALUE, 36, 0, 1).is(OUTSIDE);
        x.about(86, 3).is(7);
    }

    private static void times() {
        Edge x = new Edge(3, "OUTSIDE (office, t below 0)");
        x.orders(2, 0, 9);
        x.pay(0, 12, 0, Long.MIN_VALUE).is(OUTSIDE);
        x.pay(0, 12, 0, -1).is(OUTSIDE);
        x.pay(0, 12, 0, 0).is(1);
        x.pay(0, 24, 0, 1).is(1);
    }

    private static void aboveUntil() {
        Edge x = new Edge(3, NO_STATE);
        x.orders(2, 0, 50);
        x.pay(0, 12, 0, 51).is(STATE);
        x.pay(0, 12, 0, 50).is(1);
        x.pay(0, 24, 0, 49).is(1);
    }

    private static void aboveUntilAtTheEnds() {
        Edge x = new Edge(3, "a time UNTIL when it is paid");
        x.order(0, 1, 0, 0, 0).is(12);
        x.order(0, 1, Long.MAX_VALUE, 0, 0).is(24);
        x.order(0, 1, Long.MAX_VALUE - 1, 0, 0).is(36);
        x.pay(0, 12, 0, 1).is(STATE);
        x.pay(0, 12, 0, Long.MAX_VALUE).is(STATE);
        x.pay(0, 12, 0, 0).is(1);
        x.pay(0, 36, 0, Long.MAX_VALUE).is(STATE);
        x.pay(0, 36, 0, Long.MAX_VALUE - 1).is(1);
        x.pay(0, 24, 0, Long.MAX_VALUE).is(1);
    }

    private static void notOpen() {
        Edge x = new Edge(3, NO_STATE);
        x.orders(4, 0, 50);
        x.order(0, 1, 5, 0, 0).is(50);
        x.pay(0, 12, 0, 5).is(1);
        x.bar(24, 5).is(1);
        x.replace(36).is(62);
        x.tick(6).is(1);
        x.pay(0, 12, 0, 5).is(STATE);
        x.pay(0, 24, 0, 5).is(STATE);
        x.pay(0, 36, 0, 5).is(STATE);
        x.pay(0, 50, 0, 5).is(STATE);
        x.pay(0, 48, 0, 5).is(1);
        x.pay(0, 62, 0, 5).is(1);
        x.till(0).is(1);
    }

    private static void onAnotherOfficesList() {
        Edge x = new Edge(3, "then only that office pays it");
        x.orders(3, 3, 50);
        for (int office = 0; office < 8; office++) {
            x.set(0, office, 100);
        }
        x.list(3, 12).is(1);
        x.list(0, 24).is(1);
        x.list(7, 36).is(1);
        x.pay(2, 12, 0, 5).is(STATE);
        x.pay(4, 12, 0, 5).is(STATE);
        x.pay(3, 12, 0, 5).is(1);
        x.pay(1, 24, 0, 5).is(STATE);
        x.pay(0, 24, 0, 5).is(1);
        x.pay(6, 36, 0, 5).is(STATE);
        x.pay(7, 36, 0, 5).is(1);
    }

    private static void cutOffAndNotOnItsList() {
        Edge x = new Edge(3, "An office that is cut off pays what is on its list alone");
        x.orders(5, 3, 50);
        x.set(0, 2, 100);
        x.set(0, 4, 100);
        x.list(3, 12).is(1);
        x.list(4, 24).is(1);
        x.pay(3, 36, 0, 5).is(1);
        x.cut(3, true).is(1);
        x.pay(3, 48, 0, 5).is(STATE);
        x.pay(3, 24, 0, 5).is(STATE);
        x.pay(3, 12, 0, 5).is(1);
        x.pay(2, 48, 0, 5).is(1);
        x.pay(4, 50, 0, 5).is(1);
        x.pay(4, 24, 0, 5).is(1);
    }

    private static void atMostOnce() {
        Edge x = new Edge(3, "An order is paid out: 1, or why not.");
        x.order(0, 10, 50, 0, 0).is(12);
        for (int office = 0; office < 8; office++) {
            x.set(0, office, 100);
        }
        x.pay(3, 12, 0, 5).is(1);
        for (int office = 0; office < 8; office++) {
            x.pay(office, 12, 0, 5).is(STATE);
            x.till(office).is(office == 0 ? 110 : office == 3 ? 90 : 100);
        }
        x.all(1).is(10);
    }

    private static void anotherProof() {
        Edge x = new Edge(3, "2 the proof is looked at: WRONG if it is another one");
        x.order(0, 10, 50, 0, 7).is(12);
        x.order(0, 10, 50, 0, 0).is(24);
        x.order(0, 10, 50, 0, Integer.MAX_VALUE).is(36);
        x.pay(0, 12, 6, 5).is(WRONG);
        x.pay(0, 12, 8, 5).is(WRONG);
        x.pay(0, 12, -7, 5).is(WRONG);
        x.pay(0, 12, 7, 5).is(1);
        x.pay(0, 24, -1, 5).is(WRONG);
        x.pay(0, 24, 1, 5).is(WRONG);
        x.pay(0, 24, 0, 5).is(1);
        x.pay(0, 36, Integer.MAX_VALUE - 1, 5).is(WRONG);
        x.pay(0, 36, Integer.MIN_VALUE, 5).is(WRONG);
        x.pay(0, 36, Integer.MAX_VALUE, 5).is(1);
        x.all(6).is(0);
    }

    private static void firstPaymentAtTheLimit() {
        for (int limit = 99; limit <= 101; limit++) {
            Edge x = new Edge(3, LIMIT);
            x.order(0, 100, 50, 0, 0).is(12);
            x.set(1, 0, limit).is(1);
            x.pay(0, 12, 0, 5).is(limit < 100 ? LIMITED : 1);
            x.till(0).is(limit < 100 ? 100 : 0);
        }
    }

    private static void secondPaymentAtTheLimit() {
        for (int limit = 299; limit <= 301; limit++) {
            Edge x = new Edge(3, LIMIT);
            x.order(0, 100, 50, 0, 0).is(12);
            x.order(0, 200, 50, 0, 0).is(24);
            x.order(0, 1, 50, 0, 0).is(36);
            x.set(1, 0, limit).is(1);
            x.pay(0, 12, 0, 5).is(1);
            x.pay(0, 24, 0, 5).is(limit < 300 ? LIMITED : 1);
            x.pay(0, 36, 0, 5).is(limit == 300 ? LIMITED : 1);
        }
    }

    private static void limitOfNothing() {
        Edge x = new Edge(3, LIMIT);
        x.order(0, 1, 50, 1, 0).is(12);
        x.order(0, 1, 50, 0, 0).is(24);
        x.set(2, 1, 999).is(1);
        x.set(1, 0, 0).is(1);
        x.pay(0, 24, 0, 5).is(LIMITED);
        x.pay(0, 12, 0, 5).is(1);
        x.pay(0, 24, 0, 5).is(LIMITED);
        x.set(1, 0, 1).is(1);
        x.pay(0, 24, 0, 5).is(1);
        // With more paid out than the limit now is, even a sum of 0 would be above it.
        x.order(0, 1, 50, 1, 0).is(36);
        x.set(1, 0, 0).is(1);
        x.pay(0, 36, 0, 5).is(LIMITED);
        x.set(1, 0, 1).is(1);
        x.pay(0, 36, 0, 5).is(1);
    }

    private static void endOfADay() {
        for (long t = DAY - 1; t <= DAY + 1; t++) {
            Edge x = new Edge(3, LIMIT);
            x.orders(2, 0, 9 * DAY);
            x.set(1, 0, 1).is(1);
            x.pay(0, 12, 0, 0).is(1);
            x.pay(0, 24, 0, t).is(t < DAY ? LIMITED : 1);
        }
        for (long t = 2 * DAY - 1; t <= 2 * DAY + 1; t++) {
            Edge x = new Edge(3, LIMIT);
            x.orders(2, 0, 9 * DAY);
            x.set(1, 0, 1).is(1);
            x.pay(0, 12, 0, DAY).is(1);
            x.pay(0, 24, 0, t).is(t < 2 * DAY ? LIMITED : 1);
        }
    }

    private static void lateDays() {
        Edge x = new Edge(3, LIMIT);
        x.orders(4, 0, Long.MAX_VALUE);
        x.set(1, 0, 1).is(1);
        long lastDay = Long.MAX_VALUE / DAY;
        x.pay(0, 12, 0, Long.MAX_VALUE).is(1);
        x.pay(0, 24, 0, lastDay * DAY).is(LIMITED);
        x.pay(0, 24, 0, lastDay * DAY - 1).is(1);
        // Days that are one only when they are cut to 32 bits.
        x.pay(0, 36, 0, 5 * DAY).is(1);
        x.pay(0, 48, 0, (5 + 4294967296L) * DAY).is(1);
    }

    private static void anotherDayCountsFromNothing() {
        long[] others = {4 * DAY, 6 * DAY};
        for (long other : others) {
            Edge x = new Edge(3, "(an office knows its latest payment's day alone: "
                + "with one on another day it counts from 0)");
            x.orders(9, 0, 9 * DAY);
            x.set(1, 0, 2).is(1);
            x.pay(0, 12, 0, 5 * DAY).is(1);
            x.pay(0, 24, 0, 5 * DAY).is(1);
            x.pay(0, 36, 0, 5 * DAY).is(LIMITED);
            x.pay(0, 36, 0, other).is(1);
            x.pay(0, 48, 0, other).is(1);
            x.pay(0, 50, 0, other).is(LIMITED);
            // The fifth day has come to its limit before, but it is known no more.
            x.pay(0, 50, 0, 5 * DAY).is(1);
            x.pay(0, 62, 0, 5 * DAY).is(1);
            x.pay(0, 74, 0, 5 * DAY).is(LIMITED);
            x.pay(0, 74, 0, other).is(1);
        }
    }

    private static void anUndonePaymentIsNotTheLatest() {
        for (int step = 1; step <= 5; step++) {
            Edge x = new Edge(3, "an office knows its latest payment's day alone");
            x.orders(3, 0, 9 * DAY);
            x.set(1, 0, 1).is(1);
            x.pay(0, 12, 0, 5 * DAY).is(1);
            x.fails(0, step).is(1);
            x.pay(0, 24, 0, 6 * DAY).is(FAILED);
            x.pay(0, 24, 1, 6 * DAY).is(WRONG);
            x.pay(0, 24, 0, 5 * DAY).is(LIMITED);
            x.pay(0, 24, 0, 6 * DAY).is(1);
        }
    }

    private static void lessInTheTill() {
        for (int cents = 99; cents <= 101; cents++) {
            Edge x = new Edge(3, "4 the sum goes out of the till: POOR if there is less");
            x.order(0, 100, 50, 0, 0).is(12);
            x.set(0, 1, cents).is(1);
            x.pay(1, 12, 0, 5).is(cents < 100 ? POOR : 1);
            x.till(1).is(cents < 100 ? cents : cents - 100);
            x.about(12, 0).is(cents < 100 ? OPEN : PAID);
        }
        Edge x = new Edge(3, "POOR if there is less");
        x.order(0, 1, 50, 0, 0).is(12);
        x.pay(1, 12, 0, 5).is(POOR);
        x.order(0, 1, 50, 1, 0).is(24);
        x.set(2, 1, 999).is(1);
        x.pay(1, 24, 0, 5).is(1);
        x.till(1).is(0);
    }

    private static void theSumNotTheCents() {
        for (int rate = 1999; rate <= 2001; rate++) {
            Edge x = new Edge(3, "an order's SUM is its cents times the rate by 1000 (cut)");
            x.order(0, 1000, 50, 2, 0).is(12);
            x.set(0, 0, 1000).is(1);
            x.set(2, 2, rate).is(1);
            x.set(1, 0, 2000).is(1);
            x.pay(0, 12, 0, 5).is(rate > 2000 ? LIMITED : 1);
            x.set(1, 0, -1).is(1);
            x.pay(0, 12, 0, 5).is(rate > 2000 ? POOR : STATE);
            x.till(0).is(rate > 2000 ? 2000 : 2000 - rate);
            x.all(1).is(rate > 2000 ? 0 : rate);
        }
    }

    private static void writtenAndOnNoList() {
        Edge x = new Edge(3, "5 it is written: the order is paid (and on no list)");
        x.orders(9, 0, 50);
        for (int n = 1; n <= 8; n++) {
            x.list(0, Watch.numberOf(n)).is(n);
        }
        x.list(0, 98).is(ROOM);
        x.about(12, 4).is(0);
        x.about(12, 3).is(NONE);
        x.pay(0, 12, 0, 5).is(1);
        x.about(12, 0).is(PAID);
        x.about(12, 3).is(0);
        x.about(12, 4).is(NONE);
        x.list(0, 98).is(8);
        x.list(0, 12).is(STATE);
    }

    private static void refusedByTheFirst() {
        Edge x = new Edge(3, "it is refused by the first of these");
        x.order(0, 100, 50, 0, 7).is(12);
        x.set(1, 1, 99).is(1);
        x.pay(8, 13, 8, -1).is(UNKNOWN);
        x.pay(8, 13, 8, 51).is(UNKNOWN);
        x.pay(8, 12, 8, 51).is(OUTSIDE);
        x.pay(1, 12, 8, -1).is(OUTSIDE);
        x.pay(1, 12, 8, 51).is(STATE);
        x.pay(1, 12, 8, 50).is(WRONG);
        x.pay(1, 12, 7, 50).is(LIMITED);
        x.set(1, 1, 100).is(1);
        x.pay(1, 12, 7, 50).is(POOR);
        x.set(0, 1, 100).is(1);
        x.pay(1, 12, 7, 50).is(1);
        x.pay(8, 12, 7, 50).is(OUTSIDE);
        x.pay(1, 12, 8, 50).is(STATE);
    }
}
