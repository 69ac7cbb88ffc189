import java.util.Arrays;
import java.util.Random;

/** Runs of any calls, the same ones every time: what must hold after each call, whatever it was. */
public final class RandomRunsTest {
    private static final Check CHECK = new Check();
    private static final int RUNS = 400;
    private static final int CALLS = 512;
    private static final long[] WILD = {
        Long.MIN_VALUE, -1000000001L, -86400, -1, 0, 1, 8, 12, 13, 300, 1000000001L, 4294967308L, Long.MAX_VALUE};

    private final Random random;
    private final OrderMoney x = new OrderMoney();
    private int orders;

    private RandomRunsTest(long seed) {
        random = new Random(seed);
    }

    public static void main(String[] args) {
        for (int seed = 0; seed < RUNS; seed++) {
            new RandomRunsTest(seed).run(seed);
        }
        CHECK.end();
    }

    private void run(int seed) {
        long[] before = Watch.row(x);
        for (int call = 0; call < CALLS; call++) {
            int kind = random.nextInt(15);
            long came = make(kind);
            long[] after = Watch.row(x);
            look("run " + seed + ", call " + call + " of kind " + kind, came, before, after);
            before = after;
        }
    }

    private void look(String where, long came, long[] before, long[] after) {
        CHECK.same(where + ": balance", Watch.balance(x), 0);
        CHECK.same(where + ": held", x.all(8), 0);
        boolean isRefused = came <= OrderMoney.UNKNOWN && came >= OrderMoney.ROOM;
        if (isRefused) {
            CHECK.holds(where + ": refused, changes nothing", Arrays.equals(before, after));
        }
        int[] listed = new int[Watch.OFFICES];
        for (int office = 0; office < Watch.OFFICES; office++) {
            CHECK.holds(where + ": no till below 0", after[office] >= 0);
        }
        for (int n = 0; n < Watch.MOST_ORDERS; n++) {
            int at = Watch.OFFICES + 11 + n * 8;
            lookAtOrder(where, before, after, at);
            if (after[at + 4] >= 0) {
                listed[(int) after[at + 4]]++;
            }
        }
        for (int office = 0; office < Watch.OFFICES; office++) {
            CHECK.holds(where + ": no list above 8", listed[office] <= 8);
        }
    }

    private void lookAtOrder(String where, long[] before, long[] after, int at) {
        long was = before[at];
        long is = after[at];
        CHECK.holds(where + ": a state that is over stays", was != 1 && was != 3 && was != 4 || was == is);
        CHECK.holds(where + ": barred is open no more", was != 2 || is != 0 && is != 1);
        CHECK.holds(where + ": on a list when open alone", after[at + 4] < 0 || is == 0);
        CHECK.holds(where + ": paid somewhere", is < 0 || (is == 1) == (after[at + 3] >= 0));
        CHECK.holds(where + ": barred since some time", is != 2 || after[at + 7] >= 0);
        CHECK.holds(where + ": cents stay", was < 0 || before[at + 1] == after[at + 1]);
    }

    private long make(int kind) {
        switch (kind) {
            case 0: case 1:
                return counted(x.order(office(), amount(500), time(), pick(4), pick(3)));
            case 2: case 3:
                return x.pay(office(), number(), pick(3), time());
            case 4:
                return x.fails(office(), 1 + pick(5));
            case 5:
                return x.ask(office(), number(), pick(3), time());
            case 6:
                return x.serve(pick(6));
            case 7:
                return x.bar(number(), time());
            case 8:
                return counted(x.replace(number()));
            case 9:
                return x.cut(office(), random.nextBoolean());
            case 10:
                return x.list(office(), number());
            case 11:
                return x.set(pick(3), office(), amount(2000) - 500);
            case 12:
                return x.collect(office(), amount(500), pick(20));
            case 13:
                return x.pass(pick(20));
            default:
                return x.tick(time() / 4);
        }
    }

    private long counted(int came) {
        if (came > 0) {
            orders++;
        }
        return came;
    }

    private boolean isWild() {
        return random.nextInt(25) == 0;
    }

    private int pick(int bound) {
        return isWild() ? (int) WILD[random.nextInt(WILD.length)] : random.nextInt(bound);
    }

    private int office() {
        return pick(8);
    }

    private long amount(int bound) {
        return isWild() ? WILD[random.nextInt(WILD.length)] : 1 + random.nextInt(bound);
    }

    private long time() {
        return isWild() ? WILD[random.nextInt(WILD.length)] : random.nextInt(4 * 86400);
    }

    private long number() {
        return isWild() || orders == 0 ? WILD[random.nextInt(WILD.length)] : Watch.numberOf(1 + random.nextInt(orders));
    }
}
