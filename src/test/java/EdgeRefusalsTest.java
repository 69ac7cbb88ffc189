import java.util.Random;

/** What the terms say of refusals: which of several is answered, and that nothing changes. */
public final class EdgeRefusalsTest implements Answers {
    private static final String FIRST = "REFUSALS are answers, of several the first one here: UNKNOWN "
        + "(there is no such number), OUTSIDE (a number is not as said), STATE, ROOM";
    private static final String NOTHING = "A call that is refused changes nothing";
    private static final int RUNS = 300;
    private static final int CALLS = 512;
    private static final int[] NEAR_OFFICES = {-1, 0, 1, 7, 8};
    private static final long[] NEAR_TIMES = {-1, 0, 4, 5, 6, DAY - 1, DAY, DAY + 1};
    private static final long[] NEAR_CENTS = {0, 1, 2, 99, 100, 101, 500000, 500001};
    private static final long[] NEAR_VALUES = {
        -1000000001, -101, -100, -2, -1, 0, 1, 99, 100, 1000, 2000, 100000, 100001, 1000000001};
    private static final int[] NEAR_DAYS = {-1, 0, 1, 9998, 9999, 10000};

    public static void main(String[] args) {
        firstOfOrder();
        firstOfAsk();
        firstOfBar();
        firstOfReplace();
        firstOfList();
        firstOfSet();
        firstOfCollect();
        firstOfAbout();
        nothingInAnyRun();
        Edge.end();
    }

    private static void firstOfOrder() {
        Edge x = new Edge(2, FIRST);
        x.orders(299, 0, 50);
        x.order(8, 1, 50, 0, 0).is(OUTSIDE);
        x.order(0, 1, 50, 0, 0).is(3002);
        x.order(0, 1, 50, 0, 0).is(ROOM);
        x.order(8, 1, 50, 0, 0).is(OUTSIDE);
        x.order(0, 0, 50, 0, 0).is(OUTSIDE);
        x.order(0, 500001, 50, 0, 0).is(OUTSIDE);
        x.order(0, 1, -1, 0, 0).is(OUTSIDE);
        x.order(0, 1, 50, 4, 0).is(OUTSIDE);
        x.order(0, 1, 50, 0, -1).is(OUTSIDE);
        x.order(0, 1, 50, 0, 0).is(ROOM);
    }

    private static void firstOfAsk() {
        Edge x = new Edge(5, FIRST);
        for (int i = 0; i < 20; i++) {
            x.ask(0, 12, 0, 5).is(i);
        }
        x.ask(0, 12, 0, 5).is(ROOM);
        x.ask(8, 12, 0, 5).is(OUTSIDE);
        x.ask(-1, 12, 0, 5).is(OUTSIDE);
        x.ask(0, 12, 0, -1).is(OUTSIDE);
        x.ask(0, 13, 0, 5).is(ROOM);
    }

    private static void firstOfBar() {
        Edge x = new Edge(8, FIRST);
        x.orders(1, 0, 50);
        x.bar(13, -1).is(UNKNOWN);
        x.bar(12, -1).is(OUTSIDE);
        x.pay(0, 12, 0, 5).is(1);
        x.bar(13, -1).is(UNKNOWN);
        x.bar(12, -1).is(OUTSIDE);
        x.bar(12, 0).is(STATE);
    }

    private static void firstOfReplace() {
        Edge x = new Edge(10, FIRST);
        x.orders(300, 0, 50);
        x.pay(0, 24, 0, 5).is(1);
        x.replace(12).is(ROOM);
        x.replace(13).is(UNKNOWN);
        x.replace(24).is(STATE);
        x.replace(36).is(ROOM);
    }

    private static void firstOfList() {
        Edge x = new Edge(12, FIRST);
        x.orders(10, 0, 50);
        x.pay(0, 103, 0, 5).is(1);
        for (int n = 1; n <= 8; n++) {
            x.list(3, Watch.numberOf(n)).is(n);
        }
        x.list(8, 13).is(UNKNOWN);
        x.list(3, 13).is(UNKNOWN);
        x.list(8, 12).is(OUTSIDE);
        x.list(8, 103).is(OUTSIDE);
        x.list(8, 98).is(OUTSIDE);
        x.list(3, 12).is(STATE);
        x.list(3, 103).is(STATE);
        x.list(3, 98).is(ROOM);
        x.cut(3, true).is(1);
        x.list(3, 98).is(STATE);
        x.list(3, 13).is(UNKNOWN);
    }

    private static void firstOfSet() {
        Edge x = new Edge(13, FIRST);
        x.set(0, 0, -1).is(STATE);
        x.set(0, 8, -1).is(OUTSIDE);
        x.set(0, -1, -1).is(OUTSIDE);
        x.set(0, 0, -1000000000).is(STATE);
        x.set(0, 0, -1000000001).is(OUTSIDE);
        x.set(3, 0, -1).is(OUTSIDE);
    }

    private static void firstOfCollect() {
        Edge x = new Edge(14, FIRST);
        for (int n = 1; n <= 100; n++) {
            x.collect(0, 1, 5).is(n);
        }
        x.collect(0, 1, 5).is(ROOM);
        x.collect(8, 1, 5).is(OUTSIDE);
        x.collect(0, 0, 5).is(OUTSIDE);
        x.collect(0, 500001, 5).is(OUTSIDE);
        x.collect(0, 1, -1).is(OUTSIDE);
        x.collect(0, 1, 10000).is(OUTSIDE);
        x.collect(0, 1, 9999).is(ROOM);
    }

    private static void firstOfAbout() {
        Edge x = new Edge(17, FIRST);
        x.orders(1, 0, 50);
        x.about(13, 6).is(UNKNOWN);
        x.about(13, -1).is(UNKNOWN);
        x.about(12, 6).is(OUTSIDE);
        x.about(12, -1).is(OUTSIDE);
        x.about(12, 5).is(1);
    }

    /** Runs of any calls near the boundaries; each is made again without its refused calls. */
    private static void nothingInAnyRun() {
        for (int seed = 0; seed < RUNS; seed++) {
            Random random = new Random(seed);
            Edge x = new Edge(1, NOTHING);
            for (int call = 0; call < CALLS; call++) {
                if (random.nextInt(3) == 0) {
                    look(x, random);
                } else {
                    change(x, random);
                }
            }
        }
    }

    private static void change(Edge x, Random random) {
        int office = one(random, NEAR_OFFICES);
        long number = number(random);
        long t = one(random, NEAR_TIMES);
        int proof = random.nextInt(4) - 1;
        switch (random.nextInt(16)) {
            case 0: case 1: case 2:
                x.order(office, one(random, NEAR_CENTS), t, random.nextInt(6) - 1, proof);
                break;
            case 3: case 4:
                x.pay(office, number, proof, t);
                break;
            case 5:
                x.fails(office, random.nextInt(7));
                break;
            case 6:
                x.ask(office, number, proof, t);
                break;
            case 7:
                x.serve(random.nextInt(5) - 1);
                break;
            case 8:
                x.bar(number, t);
                break;
            case 9:
                x.replace(number);
                break;
            case 10:
                x.cut(office, random.nextBoolean());
                break;
            case 11:
                x.list(office, number);
                break;
            case 12: case 13:
                x.set(random.nextInt(5) - 1, office, one(random, NEAR_VALUES));
                break;
            case 14:
                x.collect(office, one(random, NEAR_CENTS), one(random, NEAR_DAYS));
                break;
            default:
                if (random.nextBoolean()) {
                    x.pass(one(random, NEAR_DAYS));
                } else {
                    x.tick(one(random, NEAR_TIMES));
                }
                break;
        }
    }

    private static void look(Edge x, Random random) {
        switch (random.nextInt(5)) {
            case 0:
                x.answer(random.nextInt(40) - 1);
                break;
            case 1:
                x.since(number(random));
                break;
            case 2:
                x.about(number(random), random.nextInt(8) - 1);
                break;
            case 3:
                x.till(one(random, NEAR_OFFICES));
                break;
            default:
                x.all(random.nextInt(11) - 1);
                break;
        }
    }

    private static long number(Random random) {
        return Watch.numberOf(1 + random.nextInt(60)) + (random.nextInt(10) == 0 ? 1 : 0);
    }

    private static int one(Random random, int[] values) {
        return values[random.nextInt(values.length)];
    }

    private static long one(Random random, long[] values) {
        return values[random.nextInt(values.length)];
    }
}
