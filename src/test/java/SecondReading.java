import java.util.ArrayDeque;
import java.util.ArrayList;
import java.util.Deque;
import java.util.HashSet;
import java.util.LinkedHashSet;
import java.util.List;
import java.util.Set;

/**
 * The document read a second time, for tests alone: nothing is added up that can be told from what
 * has happened, so tills, totals, days and suspects all come from the moves and payments so far.
 */
final class SecondReading implements Answers {
    private record Move(int what, int office, long cents) {
    }

    private record Payment(int office, long day, long sum, int proof) {
    }

    private record Waiting(int office, long number, int proof, long t) {
    }

    private record Sum(int office, long cents, int day) {
    }

    private static final class Letter {
        private int office;
        private long cents;
        private long until;
        private int currency;
        private int proof;
        private int state = OPEN;
        private long since = NONE;
        private int paidAt = NONE;
    }

    private final List<Move> moves = new ArrayList<>();
    private final List<Payment> payments = new ArrayList<>();
    private final List<Letter> letters = new ArrayList<>();
    private final List<Waiting> tries = new ArrayList<>();
    private final List<Integer> answers = new ArrayList<>();
    private final List<Sum> sums = new ArrayList<>();
    private final List<Set<Letter>> lists = new ArrayList<>();
    private final Set<Integer> cutOff = new HashSet<>();
    private final Set<String> failing = new HashSet<>();
    private final Set<Letter> held = new HashSet<>();
    private final long[] limits = {-1, -1, -1, -1, -1, -1, -1, -1};
    private final long[] rates = {1000, 1000, 1000, 1000};
    private int failures;

    SecondReading() {
        for (int office = 0; office < 8; office++) {
            lists.add(new LinkedHashSet<>());
        }
    }

    long order(int office, long cents, long until, int currency, int proof) {
        if (!isOffice(office) || cents < 1 || cents > 500000 || until < 0 || !isCurrency(currency) || proof < 0) {
            return OUTSIDE;
        }
        if (letters.size() == 300) {
            return ROOM;
        }
        moves.add(new Move(0, office, cents));
        return write(office, cents, until, currency, proof);
    }

    long pay(int office, long number, int proof, long t) {
        Letter letter = find(number);
        if (letter == null) {
            return UNKNOWN;
        }
        if (!isOffice(office) || t < 0) {
            return OUTSIDE;
        }
        int lister = listerOf(letter);
        boolean isElsewhere = lister != NONE && lister != office;
        boolean isOutOfReach = cutOff.contains(office) && lister != office;
        if (letter.state != OPEN || t > letter.until || isElsewhere || isOutOfReach) {
            return STATE;
        }
        Deque<Runnable> undoing = new ArrayDeque<>();
        int why = steps(office, letter, proof, Math.floorDiv(t, DAY), undoing);
        while (!undoing.isEmpty()) {
            undoing.pop().run();
        }
        return why;
    }

    private int steps(int office, Letter letter, int proof, long day, Deque<Runnable> undoing) {
        long sum = sumOf(letter);
        if (failsNow(office, 1)) {
            return FAILED;
        }
        held.add(letter);
        undoing.push(() -> held.remove(letter));
        if (failsNow(office, 2)) {
            return FAILED;
        }
        if (letter.proof != proof) {
            return WRONG;
        }
        if (failsNow(office, 3)) {
            return FAILED;
        }
        if (limits[office] >= 0 && paidOutOn(office, day) + sum > limits[office]) {
            return LIMITED;
        }
        if (failsNow(office, 4)) {
            return FAILED;
        }
        if (till(office) < sum) {
            return POOR;
        }
        moves.add(new Move(1, office, -sum));
        if (failsNow(office, 5)) {
            undoing.push(() -> moves.remove(moves.size() - 1));
            return FAILED;
        }
        letter.state = PAID;
        letter.paidAt = office;
        leaveLists(letter);
        payments.add(new Payment(office, day, sum, proof));
        return 1;
    }

    private boolean failsNow(int office, int step) {
        boolean fails = failing.remove(office + "/" + step);
        failures += fails ? 1 : 0;
        return fails;
    }

    private long paidOutOn(int office, long day) {
        long paid = 0;
        for (Payment payment : knownAt(payments.size(), office, day)) {
            paid += payment.sum;
        }
        return paid;
    }

    /** An office's payments before a place in all payments, back to the latest on another day. */
    private List<Payment> knownAt(int place, int office, long day) {
        List<Payment> known = new ArrayList<>();
        for (int i = place - 1; i >= 0; i--) {
            Payment payment = payments.get(i);
            if (payment.office == office && payment.day != day) {
                return known;
            }
            if (payment.office == office) {
                known.add(payment);
            }
        }
        return known;
    }

    private int suspects() {
        int suspects = 0;
        for (int i = 0; i < payments.size(); i++) {
            Payment payment = payments.get(i);
            int before = 0;
            for (Payment known : knownAt(i, payment.office, payment.day)) {
                before += known.proof == payment.proof ? 1 : 0;
            }
            suspects += before >= 2 ? 1 : 0;
        }
        return suspects;
    }

    long fails(int office, int step) {
        if (!isOffice(office) || step < 1 || step > 5) {
            return OUTSIDE;
        }
        return failing.add(office + "/" + step) ? 1 : 0;
    }

    long ask(int office, long number, int proof, long t) {
        if (!isOffice(office) || t < 0) {
            return OUTSIDE;
        }
        if (tries.size() - answers.size() == 20) {
            return ROOM;
        }
        tries.add(new Waiting(office, number, proof, t));
        return tries.size() - 1;
    }

    long serve(int n) {
        if (n < 0) {
            return OUTSIDE;
        }
        int served = 0;
        while (served < n && answers.size() < tries.size()) {
            Waiting first = tries.get(answers.size());
            answers.add((int) pay(first.office, first.number, first.proof, first.t));
            served++;
        }
        return served;
    }

    long answer(int trial) {
        boolean isKept = trial >= 0 && trial >= tries.size() - 100;
        return isKept && trial < answers.size() ? answers.get(trial) : NONE;
    }

    long bar(long number, long t) {
        Letter letter = find(number);
        if (letter == null) {
            return UNKNOWN;
        }
        if (t < 0) {
            return OUTSIDE;
        }
        if (letter.state != OPEN) {
            return STATE;
        }
        letter.state = BARRED;
        letter.since = t;
        leaveLists(letter);
        return 1;
    }

    long since(long number) {
        Letter letter = find(number);
        return letter == null ? UNKNOWN : letter.since;
    }

    long replace(long number) {
        Letter letter = find(number);
        if (letter == null) {
            return UNKNOWN;
        }
        if (letter.state != OPEN && letter.state != BARRED) {
            return STATE;
        }
        if (letters.size() == 300) {
            return ROOM;
        }
        letter.state = REPLACED;
        leaveLists(letter);
        return write(letter.office, letter.cents, letter.until, letter.currency, letter.proof);
    }

    long cut(int office, boolean is) {
        if (!isOffice(office)) {
            return OUTSIDE;
        }
        if (is) {
            return cutOff.add(office) ? 1 : 0;
        }
        if (!cutOff.remove(office)) {
            return 0;
        }
        lists.get(office).clear();
        return 1;
    }

    long list(int office, long number) {
        Letter letter = find(number);
        if (letter == null) {
            return UNKNOWN;
        }
        if (!isOffice(office)) {
            return OUTSIDE;
        }
        if (letter.state != OPEN || listerOf(letter) != NONE || cutOff.contains(office)) {
            return STATE;
        }
        Set<Letter> list = lists.get(office);
        if (list.size() == 8) {
            return ROOM;
        }
        list.add(letter);
        return list.size();
    }

    long set(int what, int office, long v) {
        if (what == 0 && isOffice(office) && Math.abs(v) <= 1000000000L && v != Long.MIN_VALUE) {
            if (till(office) < -v) {
                return STATE;
            }
            moves.add(new Move(5, office, v));
            return 1;
        }
        if (what == 1 && isOffice(office) && v >= -1 && v <= 1000000000L) {
            limits[office] = v;
            return 1;
        }
        if (what == 2 && isCurrency(office) && v >= 1 && v <= 100000) {
            rates[office] = v;
            return 1;
        }
        return OUTSIDE;
    }

    long collect(int office, long cents, int day) {
        if (!isOffice(office) || cents < 1 || cents > 500000 || day < 0 || day > 9999) {
            return OUTSIDE;
        }
        if (sums.size() == 100) {
            return ROOM;
        }
        moves.add(new Move(2, office, cents));
        sums.add(new Sum(office, cents, day));
        return sums.size();
    }

    long pass(int day) {
        if (day < 0 || day > 9999) {
            return OUTSIDE;
        }
        int passed = 0;
        for (Sum sum : List.copyOf(sums)) {
            if (sum.day <= day && till(sum.office) >= sum.cents) {
                moves.add(new Move(3, sum.office, -sum.cents));
                // Two sums may be alike; the first of them is the one that came first.
                sums.remove(sum);
                passed++;
            }
        }
        return passed;
    }

    long tick(long t) {
        if (t < 0) {
            return OUTSIDE;
        }
        int gone = 0;
        for (Letter letter : letters) {
            boolean isWaiting = letter.state == OPEN || letter.state == BARRED;
            if (isWaiting && letter.until < t && till(letter.office) >= letter.cents) {
                moves.add(new Move(4, letter.office, -letter.cents));
                letter.state = BACK;
                leaveLists(letter);
                gone++;
            }
        }
        return gone;
    }

    long about(long number, int what) {
        Letter letter = find(number);
        if (letter == null) {
            return UNKNOWN;
        }
        return switch (what) {
            case 0 -> letter.state;
            case 1 -> letter.cents;
            case 2 -> letter.office;
            case 3 -> letter.paidAt;
            case 4 -> listerOf(letter);
            case 5 -> sumOf(letter);
            default -> OUTSIDE;
        };
    }

    long till(int office) {
        if (!isOffice(office)) {
            return OUTSIDE;
        }
        long cents = 0;
        for (Move move : moves) {
            cents += move.office == office ? move.cents : 0;
        }
        return cents;
    }

    long all(int what) {
        return switch (what) {
            case 0, 2, 5 -> moved(what);
            case 1, 3, 4 -> -moved(what);
            case 6 -> failures;
            case 7 -> suspects();
            case 8 -> held.size();
            default -> OUTSIDE;
        };
    }

    private long moved(int what) {
        long cents = 0;
        for (Move move : moves) {
            cents += move.what == what ? move.cents : 0;
        }
        return cents;
    }

    private long write(int office, long cents, long until, int currency, int proof) {
        Letter letter = new Letter();
        letter.office = office;
        letter.cents = cents;
        letter.until = until;
        letter.currency = currency;
        letter.proof = proof;
        letters.add(letter);
        return Watch.NUMBERS[letters.size() - 1];
    }

    private Letter find(long number) {
        for (int n = 1; n <= letters.size(); n++) {
            if (Watch.NUMBERS[n - 1] == number) {
                return letters.get(n - 1);
            }
        }
        return null;
    }

    private int listerOf(Letter letter) {
        for (int office = 0; office < 8; office++) {
            if (lists.get(office).contains(letter)) {
                return office;
            }
        }
        return NONE;
    }

    private void leaveLists(Letter letter) {
        for (Set<Letter> list : lists) {
            list.remove(letter);
        }
    }

    private long sumOf(Letter letter) {
        return letter.cents * rates[letter.currency] / 1000;
    }

    private static boolean isOffice(int office) {
        return office >= 0 && office <= 7;
    }

    private static boolean isCurrency(int currency) {
        return currency >= 0 && currency <= 3;
    }
}
