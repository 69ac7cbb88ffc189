import java.util.Arrays;

/**
 * All that can be asked of an object without changing it, in one row. That is more calls than the
 * document promises an answer to, but the class keeps no count of its calls.
 */
final class Watch {
    static final int MOST_ORDERS = 300;
    static final int OFFICES = 8;
    static final long[] NUMBERS = numbers();

    private Watch() {
    }

    static long[] row(OrderMoney x) {
        long[] row = new long[OFFICES + 11 + MOST_ORDERS * 8 + 520];
        int at = 0;
        for (int office = 0; office < OFFICES; office++) {
            row[at++] = x.till(office);
        }
        for (int what = -1; what <= 9; what++) {
            row[at++] = x.all(what);
        }
        for (long number : NUMBERS) {
            for (int what = 0; what <= 6; what++) {
                row[at++] = x.about(number, what);
            }
            row[at++] = x.since(number);
        }
        for (int trial = 0; trial < 520; trial++) {
            row[at++] = x.answer(trial);
        }
        return row;
    }

    static boolean isSame(long[] before, OrderMoney x) {
        return Arrays.equals(before, row(x));
    }

    static long balance(OrderMoney x) {
        long tills = 0;
        for (int office = 0; office < OFFICES; office++) {
            tills += x.till(office);
        }
        return tills - (x.all(0) - x.all(1) + x.all(2) - x.all(3) - x.all(4) + x.all(5));
    }

    /** Made from the text of n, so as not to repeat the way the class does it. */
    static long numberOf(int n) {
        String digits = Integer.toString(n);
        int[] weights = {2, 3, 4, 5, 6, 7};
        int sum = 0;
        for (int i = 0; i < digits.length(); i++) {
            sum += (digits.charAt(digits.length() - 1 - i) - '0') * weights[i % weights.length];
        }
        return Long.parseLong(digits + sum % 10);
    }

    private static long[] numbers() {
        long[] all = new long[MOST_ORDERS];
        for (int i = 0; i < MOST_ORDERS; i++) {
            all[i] = numberOf(i + 1);
        }
        return all;
    }
}
