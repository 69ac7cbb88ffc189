/** Money orders and collected sums at a post's offices; ../shared/DOC.md has the promises. */
public final class OrderMoney {
    public static final int NONE = -1;
    public static final int UNKNOWN = -101, OUTSIDE = -102, STATE = -103, ROOM = -104;
    public static final int WRONG = -105, LIMITED = -106, POOR = -107, FAILED = -108;

    private static final int OFFICES = 8, CURRENCIES = 4;
    private static final int MOST_ORDERS = 300, MOST_LISTED = 8, MOST_COLLECTED = 100;
    private static final int MOST_WAITING = 20, TRIES_KEPT = 100;
    private static final int LAST_DAY = 9999;
    private static final long MOST_CENTS = 500000L, MOST_SET = 1000000000L, MOST_RATE = 100000L;
    private static final long NO_LIMIT = -1L, RATE_UNIT = 1000L, SECONDS_A_DAY = 86400L;

    private static final int OPEN = 0, PAID = 1, BARRED = 2, BACK = 3, REPLACED = 4;

    private static final int DONE = 1;
    private static final int HOLD = 1, PROVE = 2, KEEP_LIMIT = 3, TAKE_CENTS = 4, WRITE = 5;

    private static final int SUSPECT_FROM = 3;

    // The places of the totals are the numbers by which all(what) asks for them.
    private static final int PAID_IN = 0, PAID_OUT = 1, COLLECTED = 2, PASSED_ON = 3, GONE_BACK = 4;
    private static final int PUT_IN = 5, FAILURES = 6, SUSPECTS = 7, HELD = 8, TOTALS = 9;

    private final Office[] offices = new Office[OFFICES];
    private final Currency[] currencies = new Currency[CURRENCIES];
    private final Order[] orders = new Order[MOST_ORDERS];
    private int orderCount;
    private final Try[] tries = new Try[TRIES_KEPT];
    private int asked;
    private int served;
    private final Collected[] collected = new Collected[MOST_COLLECTED];
    private int collectedCount;
    private final long[] totals = new long[TOTALS];

    public OrderMoney() {
        for (int i = 0; i < OFFICES; i++) {
            offices[i] = new Office(i);
        }
        for (int i = 0; i < CURRENCIES; i++) {
            currencies[i] = new Currency();
        }
    }

    public int order(int office, long cents, long until, int currency, int proof) {
        Office home = officeAt(office);
        Currency money = currencyAt(currency);
        if (home == null || money == null || !isOrderable(cents) || until < 0 || proof < 0) {
            return OUTSIDE;
        }
        if (orderCount >= MOST_ORDERS) {
            return ROOM;
        }
        home.cash += cents;
        totals[PAID_IN] += cents;
        return addOrder(home, cents, until, money, proof);
    }

    public int pay(int office, long number, int proof, long t) {
        Order order = find(number);
        if (order == null) {
            return UNKNOWN;
        }
        Office payer = officeAt(office);
        if (payer == null || t < 0) {
            return OUTSIDE;
        }
        if (order.state != OPEN || t > order.until || !payer.mayTouch(order)) {
            return STATE;
        }
        return goThroughSteps(payer, order, proof, t / SECONDS_A_DAY);
    }

    public int fails(int office, int step) {
        Office failing = officeAt(office);
        if (failing == null || step < HOLD || step > WRITE) {
            return OUTSIDE;
        }
        return failing.tellToFail(step) ? 1 : 0;
    }

    public int ask(int office, long number, int proof, long t) {
        if (officeAt(office) == null || t < 0) {
            return OUTSIDE;
        }
        if (asked - served >= MOST_WAITING) {
            return ROOM;
        }
        tries[placeOfTry(asked)] = new Try(office, number, proof, t);
        return asked++;
    }

    public int serve(int n) {
        if (n < 0) {
            return OUTSIDE;
        }
        int most = Math.min(n, asked - served);
        for (int i = 0; i < most; i++) {
            Try next = tries[placeOfTry(served)];
            served++;
            if (next != null) {
                next.cameTo = pay(next.office, next.number, next.proof, next.t);
            }
        }
        return most;
    }

    public int answer(int trial) {
        if (trial < 0 || trial >= asked || trial < asked - TRIES_KEPT) {
            return NONE;
        }
        Try kept = tries[placeOfTry(trial)];
        return kept == null ? NONE : kept.cameTo;
    }

    public int bar(long number, long t) {
        Order order = find(number);
        if (order == null) {
            return UNKNOWN;
        }
        if (t < 0) {
            return OUTSIDE;
        }
        if (order.state != OPEN) {
            return STATE;
        }
        order.barredSince = t;
        order.become(BARRED);
        return 1;
    }

    public long since(long number) {
        Order order = find(number);
        return order == null ? UNKNOWN : order.barredSince;
    }

    public int replace(long number) {
        Order lost = find(number);
        if (lost == null) {
            return UNKNOWN;
        }
        if (!lost.isUnpaid()) {
            return STATE;
        }
        if (orderCount >= MOST_ORDERS) {
            return ROOM;
        }
        lost.become(REPLACED);
        return addOrder(lost.home, lost.cents, lost.until, lost.currency, lost.proof);
    }

    public int cut(int office, boolean is) {
        Office changed = officeAt(office);
        if (changed == null) {
            return OUTSIDE;
        }
        if (changed.isCut == is) {
            return 0;
        }
        changed.isCut = is;
        if (!is) {
            emptyListOf(changed);
        }
        return 1;
    }

    public int list(int office, long number) {
        Order order = find(number);
        if (order == null) {
            return UNKNOWN;
        }
        Office lister = officeAt(office);
        if (lister == null) {
            return OUTSIDE;
        }
        if (order.state != OPEN || order.lister != null || lister.isCut) {
            return STATE;
        }
        if (lister.listed >= MOST_LISTED) {
            return ROOM;
        }
        order.lister = lister;
        lister.listed++;
        return lister.listed;
    }

    public int set(int what, int office, long v) {
        switch (what) {
            case 0:
                return changeTill(officeAt(office), v);
            case 1:
                return changeLimit(officeAt(office), v);
            case 2:
                return changeRate(currencyAt(office), v);
            default:
                return OUTSIDE;
        }
    }

    public int collect(int office, long cents, int day) {
        Office collector = officeAt(office);
        if (collector == null || !isOrderable(cents) || !isCollectDay(day)) {
            return OUTSIDE;
        }
        if (collectedCount >= MOST_COLLECTED) {
            return ROOM;
        }
        collector.cash += cents;
        totals[COLLECTED] += cents;
        collected[collectedCount] = new Collected(collector, cents, day);
        collectedCount++;
        return collectedCount;
    }

    public int pass(int day) {
        if (!isCollectDay(day)) {
            return OUTSIDE;
        }
        int before = collectedCount;
        int kept = 0;
        for (int i = 0; i < before; i++) {
            Collected sum = collected[i];
            collected[i] = null;
            if (sum != null && !passOn(sum, day)) {
                collected[kept] = sum;
                kept++;
            }
        }
        collectedCount = kept;
        return before - kept;
    }

    public int tick(long t) {
        if (t < 0) {
            return OUTSIDE;
        }
        int gone = 0;
        for (int i = 0; i < orderCount; i++) {
            Order order = orders[i];
            if (order != null && order.until < t && sendBack(order)) {
                gone++;
            }
        }
        return gone;
    }

    public long about(long number, int what) {
        Order order = find(number);
        if (order == null) {
            return UNKNOWN;
        }
        switch (what) {
            case 0:
                return order.state;
            case 1:
                return order.cents;
            case 2:
                return order.home.place;
            case 3:
                return placeOf(order.payer);
            case 4:
                return placeOf(order.lister);
            case 5:
                return order.sum();
            default:
                return OUTSIDE;
        }
    }

    public long till(int office) {
        Office holder = officeAt(office);
        return holder == null ? OUTSIDE : holder.cash;
    }

    public long all(int what) {
        return what < 0 || what >= TOTALS ? OUTSIDE : totals[what];
    }

    private Office officeAt(int place) {
        return place < 0 || place >= OFFICES ? null : offices[place];
    }

    private Currency currencyAt(int place) {
        return place < 0 || place >= CURRENCIES ? null : currencies[place];
    }

    private static long placeOf(Office office) {
        return office == null ? NONE : office.place;
    }

    // Lies in the row for every int, also for a count that has run over after more calls than promised.
    private static int placeOfTry(int trial) {
        return Math.floorMod(trial, TRIES_KEPT);
    }

    private static boolean isOrderable(long cents) {
        return cents >= 1 && cents <= MOST_CENTS;
    }

    private static boolean isCollectDay(int day) {
        return day >= 0 && day <= LAST_DAY;
    }

    private Order find(long number) {
        // Compared as long, so that no number far above is cut into a small index.
        long n = number / 10;
        if (n < 1 || n > orderCount) {
            return null;
        }
        Order order = orders[(int) n - 1];
        return order == null || order.number != number ? null : order;
    }

    // Both callers have found room before they change anything.
    private int addOrder(Office home, long cents, long until, Currency currency, int proof) {
        int number = numberOf(orderCount + 1);
        orders[orderCount] = new Order(number, home, cents, until, currency, proof);
        orderCount++;
        return number;
    }

    private static int numberOf(int n) {
        int total = 0;
        int rest = n;
        // An int has ten digits at most; the weights 2 .. 7 come again after six of them.
        for (int place = 0; place < 10; place++) {
            total += rest % 10 * (2 + place % 6);
            rest /= 10;
        }
        return 10 * n + total % 10;
    }

    private int goThroughSteps(Office payer, Order order, int proof, long day) {
        int came = DONE;
        int done = 0;
        for (int step = HOLD; step <= WRITE && came == DONE; step++) {
            came = payer.takesFailing(step) ? FAILED : takeStep(step, payer, order, proof, day);
            if (came == DONE) {
                done = step;
            }
        }
        if (came == FAILED) {
            totals[FAILURES]++;
        }
        if (came == DONE) {
            totals[HELD]--;
        } else {
            undoSteps(done, payer, order);
        }
        return came;
    }

    private int takeStep(int step, Office payer, Order order, int proof, long day) {
        switch (step) {
            case HOLD:
                totals[HELD]++;
                return DONE;
            case PROVE:
                return proof == order.proof ? DONE : WRONG;
            case KEEP_LIMIT:
                return payer.keepsLimit(order.sum(), day) ? DONE : LIMITED;
            case TAKE_CENTS:
                return payer.giveOut(order.sum()) ? DONE : POOR;
            default:
                writePaid(payer, order, day);
                return DONE;
        }
    }

    // The proof and the limit are only looked at, and a written payment is never undone.
    private void undoSteps(int done, Office payer, Order order) {
        for (int step = done; step >= HOLD; step--) {
            if (step == TAKE_CENTS) {
                payer.cash += order.sum();
            } else if (step == HOLD) {
                totals[HELD]--;
            }
        }
    }

    private void writePaid(Office payer, Order order, long day) {
        order.become(PAID);
        order.payer = payer;
        payer.know(order, day);
        totals[PAID_OUT] += order.sum();
        if (payer.knownWith(order.proof) >= SUSPECT_FROM) {
            totals[SUSPECTS]++;
        }
    }

    private void emptyListOf(Office office) {
        for (int i = 0; i < orderCount; i++) {
            Order order = orders[i];
            if (order != null && order.lister == office) {
                order.leaveList();
            }
        }
    }

    private int changeTill(Office office, long cents) {
        if (office == null || cents < -MOST_SET || cents > MOST_SET) {
            return OUTSIDE;
        }
        if (office.cash + cents < 0) {
            return STATE;
        }
        office.cash += cents;
        totals[PUT_IN] += cents;
        return 1;
    }

    private static int changeLimit(Office office, long limit) {
        if (office == null || limit < NO_LIMIT || limit > MOST_SET) {
            return OUTSIDE;
        }
        office.limit = limit;
        return 1;
    }

    private static int changeRate(Currency currency, long rate) {
        if (currency == null || rate < 1 || rate > MOST_RATE) {
            return OUTSIDE;
        }
        currency.rate = rate;
        return 1;
    }

    private boolean passOn(Collected sum, int day) {
        if (sum.day > day || !sum.office.giveOut(sum.cents)) {
            return false;
        }
        totals[PASSED_ON] += sum.cents;
        return true;
    }

    private boolean sendBack(Order order) {
        if (!order.isUnpaid() || !order.home.giveOut(order.cents)) {
            return false;
        }
        totals[GONE_BACK] += order.cents;
        order.become(BACK);
        return true;
    }

    private static final class Currency {
        private long rate = RATE_UNIT;
    }

    private static final class Office {
        private final int place;
        private long cash;
        private long limit = NO_LIMIT;
        private boolean isCut;
        private int listed;
        private int stepsToFail;
        private long knownDay = NONE;
        private long paidOnDay;
        // The latest payment of the known day; the ones before hang on it.
        private Order latestPaid;

        Office(int place) {
            this.place = place;
        }

        boolean mayTouch(Order order) {
            return order.lister == this || (order.lister == null && !isCut);
        }

        boolean tellToFail(int step) {
            int bit = 1 << step;
            boolean isNew = (stepsToFail & bit) == 0;
            stepsToFail |= bit;
            return isNew;
        }

        boolean takesFailing(int step) {
            int bit = 1 << step;
            boolean isTold = (stepsToFail & bit) != 0;
            stepsToFail &= ~bit;
            return isTold;
        }

        boolean keepsLimit(long sum, long day) {
            long paid = day == knownDay ? paidOnDay : 0;
            return limit == NO_LIMIT || paid + sum <= limit;
        }

        boolean giveOut(long cents) {
            if (cash < cents) {
                return false;
            }
            cash -= cents;
            return true;
        }

        void know(Order paid, long day) {
            if (day != knownDay) {
                knownDay = day;
                paidOnDay = 0;
                latestPaid = null;
            }
            paidOnDay += paid.sum();
            paid.paidBefore = latestPaid;
            latestPaid = paid;
        }

        int knownWith(int proof) {
            int same = 0;
            for (Order paid = latestPaid; paid != null; paid = paid.paidBefore) {
                if (paid.proof == proof) {
                    same++;
                }
            }
            return same;
        }
    }

    private static final class Order {
        private final int number;
        private final Office home;
        private final long cents;
        private final long until;
        private final Currency currency;
        private final int proof;
        private int state = OPEN;
        private long barredSince = NONE;
        private Office lister;
        private Office payer;
        private Order paidBefore;

        Order(int number, Office home, long cents, long until, Currency currency, int proof) {
            this.number = number;
            this.home = home;
            this.cents = cents;
            this.until = until;
            this.currency = currency;
            this.proof = proof;
        }

        boolean isUnpaid() {
            return state == OPEN || state == BARRED;
        }

        long sum() {
            return cents * currency.rate / RATE_UNIT;
        }

        // Only open orders are listed, so whatever ends that ends the listing too.
        void become(int newState) {
            state = newState;
            leaveList();
        }

        void leaveList() {
            if (lister != null) {
                lister.listed--;
                lister = null;
            }
        }
    }

    private static final class Try {
        private final int office;
        private final long number;
        private final int proof;
        private final long t;
        private int cameTo = NONE;

        Try(int office, long number, int proof, long t) {
            this.office = office;
            this.number = number;
            this.proof = proof;
            this.t = t;
        }
    }

    private static final class Collected {
        private final Office office;
        private final long cents;
        private final int day;

        Collected(Office office, long cents, int day) {
            this.office = office;
            this.cents = cents;
            this.day = day;
        }
    }
}
