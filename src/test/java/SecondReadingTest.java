import java.util.Random;

/**
 * Runs of any calls, the same ones every time, on the class and on a second reading of the document:
 * each answer must be the same. A mood is a weight for each kind of call, so that some runs come to
 * where an even mixture does not: 300 orders, 20 tries that wait, 100 sums, full lists, suspects.
 */
public final class SecondReadingTest {
    private static final Check CHECK = new Check();
    private static final int RUNS_A_MOOD = 120;
    private static final int CALLS = 512;
    // order pay fails ask serve answer bar since replace cut list set collect pass tick about till all
    private static final int[][] MOODS = {
        {8, 8, 3, 3, 3, 3, 2, 2, 2, 2, 4, 6, 3, 2, 1, 6, 4, 6},
        {60, 4, 1, 1, 1, 1, 2, 2, 6, 1, 4, 3, 1, 1, 1, 6, 1, 2},
        {12, 30, 6, 0, 0, 0, 1, 0, 0, 0, 0, 6, 0, 0, 0, 3, 4, 8},
        {6, 2, 1, 30, 6, 20, 1, 0, 1, 1, 2, 3, 0, 0, 0, 2, 1, 2},
        {2, 2, 0, 0, 0, 0, 0, 0, 0, 0, 0, 6, 40, 4, 1, 0, 6, 6},
        {12, 8, 2, 1, 1, 1, 1, 1, 1, 4, 24, 3, 0, 0, 1, 8, 1, 2},
        {16, 3, 1, 0, 0, 0, 6, 6, 6, 1, 3, 6, 1, 1, 8, 10, 4, 4}};
    private static final long[] WILD = {
        Long.MIN_VALUE, -1000000001L, -1000000000L, -86400, -2, -1, 0, 1, 7, 8, 9, 12, 13, 300, 9999,
        10000, 100000, 100001, 500000, 500001, 1000000000L, 1000000001L, Integer.MAX_VALUE, 4294967308L, Long.MAX_VALUE};

    private final String name;
    private final int[] weights;
    private final Random random;
    private final boolean isNarrow;
    private final OrderMoney x = new OrderMoney();
    private final SecondReading second = new SecondReading();
    private int orders;

    private SecondReadingTest(int mood, int seed) {
        name = "mood " + mood + ", run " + seed;
        weights = MOODS[mood];
        random = new Random(1000L * mood + seed);
        // Few offices, days and proofs, so that what counts by them adds up.
        isNarrow = seed % 2 == 1;
    }

    public static void main(String[] args) {
        for (int mood = 0; mood < MOODS.length; mood++) {
            for (int seed = 0; seed < RUNS_A_MOOD; seed++) {
                new SecondReadingTest(mood, seed).run();
            }
        }
        CHECK.end();
    }

    private void run() {
        for (int call = 0; call < CALLS; call++) {
            make(kind(), name + ", call " + call + ": ");
        }
    }

    private int kind() {
        int sum = 0;
        for (int weight : weights) {
            sum += weight;
        }
        int left = random.nextInt(sum);
        int kind = 0;
        while (left >= weights[kind]) {
            left -= weights[kind];
            kind++;
        }
        return kind;
    }

    private void make(int kind, String where) {
        int office = office();
        long number = number();
        int proof = proof();
        long t = time();
        switch (kind) {
            case 0 -> order(where, office, cents(), t, small(4), proof);
            case 1 -> CHECK.same(where + "pay", x.pay(office, number, proof, t), second.pay(office, number, proof, t));
            case 2 -> {
                int step = 1 + small(5);
                CHECK.same(where + "fails", x.fails(office, step), second.fails(office, step));
            }
            case 3 -> CHECK.same(where + "ask", x.ask(office, number, proof, t), second.ask(office, number, proof, t));
            case 4 -> {
                int n = small(8);
                CHECK.same(where + "serve", x.serve(n), second.serve(n));
            }
            case 5 -> {
                int trial = small(130);
                CHECK.same(where + "answer", x.answer(trial), second.answer(trial));
            }
            case 6 -> CHECK.same(where + "bar", x.bar(number, t), second.bar(number, t));
            case 7 -> CHECK.same(where + "since", x.since(number), second.since(number));
            case 8 -> {
                long came = second.replace(number);
                orders += came > 0 ? 1 : 0;
                CHECK.same(where + "replace", x.replace(number), came);
            }
            case 9 -> {
                boolean is = random.nextBoolean();
                CHECK.same(where + "cut", x.cut(office, is), second.cut(office, is));
            }
            case 10 -> CHECK.same(where + "list", x.list(office, number), second.list(office, number));
            case 11 -> set(where, small(3), office);
            case 12 -> {
                long cents = cents();
                int day = small(12);
                CHECK.same(where + "collect", x.collect(office, cents, day), second.collect(office, cents, day));
            }
            case 13 -> {
                int day = small(12);
                CHECK.same(where + "pass", x.pass(day), second.pass(day));
            }
            case 14 -> {
                long early = t / 3;
                CHECK.same(where + "tick", x.tick(early), second.tick(early));
            }
            case 15 -> {
                int what = small(6);
                CHECK.same(where + "about " + what, x.about(number, what), second.about(number, what));
            }
            case 16 -> CHECK.same(where + "till", x.till(office), second.till(office));
            default -> {
                int what = small(9);
                CHECK.same(where + "all " + what, x.all(what), second.all(what));
            }
        }
    }

    private void order(String where, int office, long cents, long t, int currency, int proof) {
        // Most orders live long, or few would ever be paid.
        long until = t < 0 || random.nextInt(3) == 0 ? t : 9 * Answers.DAY;
        long came = second.order(office, cents, until, currency, proof);
        orders += came > 0 ? 1 : 0;
        CHECK.same(where + "order", x.order(office, cents, until, currency, proof), came);
    }

    private void set(String where, int what, int place) {
        long v = isWild() ? WILD[random.nextInt(WILD.length)]
            : what == 0 ? random.nextInt(isNarrow ? 16 : 1600) - (isNarrow ? 7 : 700)
            : what == 1 ? random.nextInt(isNarrow ? 15 : 1500) - 1
            : 1 + random.nextInt(3000);
        CHECK.same(where + "set " + what, x.set(what, place, v), second.set(what, place, v));
    }

    private boolean isWild() {
        return random.nextInt(30) == 0;
    }

    private int small(int bound) {
        return isWild() ? (int) WILD[random.nextInt(WILD.length)] : random.nextInt(bound);
    }

    // One proof most often, or few payments would come beyond their second step.
    private int proof() {
        return random.nextInt(4) != 0 ? 0 : small(isNarrow ? 2 : 4);
    }

    private int office() {
        return small(isNarrow ? 2 : 8);
    }

    private long cents() {
        return isWild() ? WILD[random.nextInt(WILD.length)] : 1 + random.nextInt(isNarrow ? 5 : 400);
    }

    private long time() {
        if (isWild()) {
            return WILD[random.nextInt(WILD.length)];
        }
        int days = isNarrow ? 2 : 5;
        boolean isAtADaysEnd = random.nextInt(4) == 0;
        return isAtADaysEnd ? (1 + random.nextInt(days)) * Answers.DAY - random.nextInt(2)
            : random.nextInt((int) (days * Answers.DAY));
    }

    private long number() {
        if (isWild() || orders == 0) {
            return WILD[random.nextInt(WILD.length)];
        }
        // The newest ones most often, as the old ones are mostly done with.
        int newest = Math.min(orders, 12);
        int n = random.nextBoolean() ? orders - random.nextInt(newest) : 1 + random.nextInt(orders);
        return Watch.NUMBERS[n - 1] + (random.nextInt(60) == 0 ? 1 : 0);
    }
}
