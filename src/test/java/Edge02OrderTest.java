/** Promise 2 at its boundaries: what an order is made of, its number, the room for orders. */
public final class Edge02OrderTest implements Answers {
    private static final String OUTSIDES =
        "OUTSIDE (office, cents, until below 0, currency 0 .. 3, proof below 0)";

    public static void main(String[] args) {
        officesInTheTerms();
        offices();
        cents();
        centsInTheTerms();
        until();
        currencies();
        currenciesInTheTerms();
        proofs();
        room();
        firstNumber();
        checkDigitWrapsAround();
        checkDigitOfMoreDigits();
        centsComeIntoTheTill();
        Edge.end();
    }

    private static void officesInTheTerms() {
        Edge x = new Edge(2, "OFFICES are 0 .. 7");
        x.order(-1, 10, 9, 0, 0).is(OUTSIDE);
        x.order(0, 10, 9, 0, 0).is(12);
        x.order(1, 11, 9, 0, 0).is(24);
        x.order(6, 16, 9, 0, 0).is(36);
        x.order(7, 17, 9, 0, 0).is(48);
        x.order(8, 18, 9, 0, 0).is(OUTSIDE);
        x.about(12, 2).is(0);
        x.about(24, 2).is(1);
        x.about(36, 2).is(6);
        x.about(48, 2).is(7);
        x.all(0).is(54);
    }

    private static void offices() {
        Edge x = new Edge(2, OUTSIDES);
        x.order(Integer.MIN_VALUE, 10, 9, 0, 0).is(OUTSIDE);
        x.order(-1, 10, 9, 0, 0).is(OUTSIDE);
        x.order(8, 10, 9, 0, 0).is(OUTSIDE);
        x.order(Integer.MAX_VALUE, 10, 9, 0, 0).is(OUTSIDE);
        x.all(0).is(0);
        x.order(7, 10, 9, 0, 0).is(12);
    }

    private static void cents() {
        Edge x = new Edge(2, OUTSIDES);
        x.order(0, Long.MIN_VALUE, 9, 0, 0).is(OUTSIDE);
        x.order(0, -1, 9, 0, 0).is(OUTSIDE);
        x.order(0, 4294967297L, 9, 0, 0).is(OUTSIDE);
        x.order(0, Long.MAX_VALUE, 9, 0, 0).is(OUTSIDE);
        x.till(0).is(0);
        x.order(0, 1, 9, 0, 0).is(12);
    }

    private static void centsInTheTerms() {
        Edge x = new Edge(2, "An order has cents 1 .. 500000");
        x.order(0, 0, 9, 0, 0).is(OUTSIDE);
        x.order(0, 1, 9, 0, 0).is(12);
        x.order(0, 2, 9, 0, 0).is(24);
        x.order(0, 499999, 9, 0, 0).is(36);
        x.order(0, 500000, 9, 0, 0).is(48);
        x.order(0, 500001, 9, 0, 0).is(OUTSIDE);
        x.about(12, 1).is(1);
        x.about(36, 1).is(499999);
        x.about(48, 1).is(500000);
        x.till(0).is(1000002);
    }

    private static void until() {
        Edge x = new Edge(2, OUTSIDES);
        x.order(0, 10, Long.MIN_VALUE, 0, 0).is(OUTSIDE);
        x.order(0, 10, -1, 0, 0).is(OUTSIDE);
        x.order(0, 10, 0, 0, 0).is(12);
        x.order(0, 10, 1, 0, 0).is(24);
        x.order(0, 10, Long.MAX_VALUE - 1, 0, 0).is(36);
        x.order(0, 10, Long.MAX_VALUE, 0, 0).is(48);
        x.till(0).is(40);
    }

    private static void currencies() {
        Edge x = new Edge(2, OUTSIDES);
        x.order(0, 10, 9, Integer.MIN_VALUE, 0).is(OUTSIDE);
        x.order(0, 10, 9, -1, 0).is(OUTSIDE);
        x.order(0, 10, 9, 0, 0).is(12);
        x.order(0, 10, 9, 1, 0).is(24);
        x.order(0, 10, 9, 2, 0).is(36);
        x.order(0, 10, 9, 3, 0).is(48);
        x.order(0, 10, 9, 4, 0).is(OUTSIDE);
        x.order(0, 10, 9, Integer.MAX_VALUE, 0).is(OUTSIDE);
        x.till(0).is(40);
    }

    private static void currenciesInTheTerms() {
        Edge x = new Edge(2, "a CURRENCY 0 .. 3");
        for (int currency = 0; currency < 4; currency++) {
            x.order(0, 1000, 9, currency, 0).is(Watch.numberOf(currency + 1));
            x.set(2, currency, 2000 + currency).is(1);
        }
        // Each order goes by the rate of its own currency, the first and the last one too.
        for (int currency = 0; currency < 4; currency++) {
            x.about(Watch.numberOf(currency + 1), 5).is(2000 + currency);
        }
        x.order(0, 1000, 9, -1, 0).is(OUTSIDE);
        x.order(0, 1000, 9, 4, 0).is(OUTSIDE);
        x.all(0).is(4000);
    }

    private static void proofs() {
        Edge x = new Edge(2, OUTSIDES);
        x.order(0, 10, 9, 0, Integer.MIN_VALUE).is(OUTSIDE);
        x.order(0, 10, 9, 0, -1).is(OUTSIDE);
        x.order(0, 10, 9, 0, 0).is(12);
        x.order(0, 10, 9, 0, 1).is(24);
        x.order(0, 10, 9, 0, Integer.MAX_VALUE).is(36);
        x.till(0).is(30);
    }

    private static void room() {
        Edge x = new Edge(2, "ROOM (300)");
        for (int n = 1; n <= 298; n++) {
            x.order(n % 8, 2, 9, 0, 0).is(Watch.numberOf(n));
        }
        x.order(0, 2, 9, 0, 0).is(2993);
        x.order(0, 2, 9, 0, 0).is(3002);
        x.order(0, 2, 9, 0, 0).is(ROOM);
        x.order(0, 2, 9, 0, 0).is(ROOM);
        x.all(0).is(600);
        x.about(2993, 0).is(OPEN);
        x.about(3002, 0).is(OPEN);
        x.about(3014, 0).is(UNKNOWN);
        // Orders that are over keep their room, for their numbers are kept.
        x.pay(0, 3002, 0, 9).is(1);
        x.order(0, 2, 9, 0, 0).is(ROOM);
        x.tick(10).is(299);
        x.order(0, 2, 9, 0, 0).is(ROOM);
    }

    private static void firstNumber() {
        Edge x = new Edge(2, "the n-th one (from 1 on) is 10 n and a CHECK digit");
        x.order(0, 1, 9, 0, 0).is(12);
        for (int number = -13; number <= 23; number++) {
            x.about(number, 0).is(number == 12 ? OPEN : UNKNOWN);
        }
        x.about(12 + 4294967296L, 0).is(UNKNOWN);
        x.about(Long.MIN_VALUE, 0).is(UNKNOWN);
        x.about(Long.MAX_VALUE, 0).is(UNKNOWN);
        // A refused order has no number: the next one has it.
        x.order(0, 0, 9, 0, 0).is(OUTSIDE);
        x.order(0, 1, 9, 0, 0).is(24);
    }

    private static void checkDigitWrapsAround() {
        Edge x = new Edge(2, "the digits of n, the last one times 2, the one before times 3, "
            + "and so on up to 7, then 2 again, summed, modulo 10");
        int[] numbers = {12, 24, 36, 48, 50, 62, 74, 86, 98, 103, 115, 127, 139, 141, 153};
        for (int number : numbers) {
            x.order(0, 1, 9, 0, 0).is(number);
        }
        // At 4, 5, 6 the sum goes past 9, and at 13, 14, 15 again.
        for (int digit = 0; digit < 10; digit++) {
            x.about(40 + digit, 0).is(digit == 8 ? OPEN : UNKNOWN);
            x.about(50 + digit, 0).is(digit == 0 ? OPEN : UNKNOWN);
            x.about(60 + digit, 0).is(digit == 2 ? OPEN : UNKNOWN);
            x.about(140 + digit, 0).is(digit == 1 ? OPEN : UNKNOWN);
        }
    }

    private static void checkDigitOfMoreDigits() {
        Edge x = new Edge(2, "the digits of n, the last one times 2, the one before times 3");
        for (int n = 1; n <= 300; n++) {
            x.order(0, 1, 9, 0, 0).is(Watch.numberOf(n));
        }
        int[] numbers = {86, 98, 103, 115, 983, 995, 1004, 1016, 1987, 1999, 2008, 2010, 2993, 3002};
        for (int number : numbers) {
            x.about(number, 0).is(OPEN);
            x.about(number - 1, 0).is(UNKNOWN);
            x.about(number + 1, 0).is(UNKNOWN);
        }
    }

    private static void centsComeIntoTheTill() {
        Edge x = new Edge(2, "An order is paid in at an office (the cents come into its till): its number");
        x.set(2, 3, 100000).is(1);
        x.order(4, 500000, 9, 3, 0).is(12);
        x.till(3).is(0);
        x.till(4).is(500000);
        x.till(5).is(0);
        x.all(0).is(500000);
        x.order(4, 500001, 9, 3, 0).is(OUTSIDE);
        x.till(4).is(500000);
        x.all(0).is(500000);
    }
}
