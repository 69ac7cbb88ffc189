/** What the document says first of all, in "What it is": each of its parts seen from outside. */
public final class WhatItIsTest implements Answers {
    public static void main(String[] args) {
        numbersWithChecks();
        atMostOnceOverAllOffices();
        atMostOnceByTries();
        atMostOnceByLetters();
        byProof();
        stepsThatAreUndone();
        tillsThatBalance();
        tillsThatBalanceByAnyRate();
        cutOffOffices();
        bars();
        lettersReplaced();
        ordersThatGoBack();
        laterCallsEnd();
        Edge.end();
    }

    /** Of the ten numbers that begin alike, one alone is an order's. */
    private static void numbersWithChecks() {
        for (int last = 20; last <= 300; last += 20) {
            Edge x = new Edge(1, "numbers with checks");
            for (int n = 1; n <= last; n++) {
                x.order(0, n, 50, 0, 0).is(Watch.numberOf(n));
            }
            for (int n = last - 19; n <= last; n++) {
                for (long number = 10L * n; number < 10L * n + 10; number++) {
                    x.about(number, 1).is(number == Watch.numberOf(n) ? n : UNKNOWN);
                }
            }
        }
    }

    private static void atMostOnceOverAllOffices() {
        for (int payer = 0; payer < 8; payer++) {
            Edge x = new Edge(1, "paid out at most once over all offices");
            fillTills(x, 100);
            x.order(0, 10, 50, 0, 7).is(12);
            x.pay(payer, 12, 7, 5).is(1);
            for (int office = 0; office < 8; office++) {
                x.pay(office, 12, 7, 5).is(STATE);
                x.list(office, 12).is(STATE);
            }
            x.about(12, 3).is(payer);
            x.all(1).is(10);
        }
    }

    private static void atMostOnceByTries() {
        Edge x = new Edge(1, "paid out at most once over all offices");
        fillTills(x, 100);
        x.order(0, 10, 50, 0, 7).is(12);
        for (int office = 7; office >= 0; office--) {
            x.ask(office, 12, 7, 5).is(7 - office);
        }
        x.fails(7, 5).is(1);
        x.serve(8).is(8);
        x.answer(0).is(FAILED);
        x.answer(1).is(1);
        for (int trial = 2; trial < 8; trial++) {
            x.answer(trial).is(STATE);
        }
        x.about(12, 3).is(6);
        x.all(1).is(10);
    }

    private static void atMostOnceByLetters() {
        Edge x = new Edge(1, "paid out at most once over all offices");
        x.order(0, 10, 50, 0, 7).is(12);
        x.set(0, 0, 90).is(1);
        x.replace(12).is(24);
        x.replace(24).is(36);
        x.pay(0, 12, 7, 5).is(STATE);
        x.pay(0, 24, 7, 5).is(STATE);
        x.pay(0, 36, 7, 5).is(1);
        x.pay(0, 36, 7, 5).is(STATE);
        x.replace(36).is(STATE);
        x.tick(51).is(0);
        x.till(0).is(90);
    }

    private static void byProof() {
        Edge x = new Edge(1, "by proof");
        for (int proof = 0; proof < 5; proof++) {
            x.order(0, 10, 50, 0, proof).is(Watch.numberOf(proof + 1));
        }
        for (int proof = 0; proof < 5; proof++) {
            for (int shown = 4; shown >= 0; shown--) {
                boolean isOver = shown < proof;
                x.pay(0, Watch.numberOf(proof + 1), shown, 5).is(isOver ? STATE : shown == proof ? 1 : WRONG);
            }
        }
        x.till(0).is(0);
    }

    private static void stepsThatAreUndone() {
        for (int step = 1; step <= 5; step++) {
            Edge x = new Edge(1, "steps that may fail and are undone");
            x.order(3, 10, 50, 1, 7).is(12);
            x.set(2, 1, 2500).is(1);
            x.set(0, 4, 25).is(1);
            x.list(4, 12).is(1);
            x.fails(4, step).is(1);
            x.pay(4, 12, 7, 5).is(FAILED);
            x.till(4).is(25);
            x.till(3).is(10);
            x.about(12, 0).is(OPEN);
            x.about(12, 3).is(NONE);
            x.about(12, 4).is(4);
            x.all(1).is(0);
            x.all(8).is(0);
            x.pay(4, 12, 7, 5).is(1);
            x.till(4).is(0);
            x.all(6).is(1);
        }
    }

    private static void tillsThatBalance() {
        Edge x = new Edge(1, "tills that balance");
        x.balance().is(0);
        x.order(0, 300, 50, 0, 7).is(12);
        x.order(1, 500, 50, 0, 7).is(24);
        x.order(1, 90, 50, 0, 7).is(36);
        x.balance().is(0);
        x.set(0, 2, 1000).is(1);
        x.balance().is(0);
        x.set(0, 2, -100).is(1);
        x.balance().is(0);
        x.pay(2, 12, 7, 5).is(1);
        x.balance().is(0);
        x.collect(3, 70, 1).is(1);
        x.collect(4, 80, 2).is(2);
        x.balance().is(0);
        x.pass(1).is(1);
        x.balance().is(0);
        x.replace(36).is(48);
        x.balance().is(0);
        x.bar(24, 9).is(1);
        x.tick(51).is(2);
        x.balance().is(0);
        x.till(0).is(300);
        x.till(1).is(0);
        x.till(2).is(600);
        x.till(3).is(0);
        x.till(4).is(80);
    }

    /** Paid out is by the rate, gone back is not, though the rate is the same one. */
    private static void tillsThatBalanceByAnyRate() {
        int[] rates = {1, 333, 1000, 2718, 100000};
        for (int rate : rates) {
            Edge x = new Edge(1, "tills that balance");
            x.set(2, 3, rate).is(1);
            x.set(0, 6, 1000000).is(1);
            x.order(5, 777, 50, 3, 7).is(12);
            x.order(5, 777, 50, 3, 7).is(24);
            x.pay(6, 12, 7, 5).is(1);
            x.balance().is(0);
            x.tick(51).is(1);
            x.balance().is(0);
            x.till(5).is(777);
            x.all(1).is(777L * rate / 1000);
            x.all(4).is(777);
        }
    }

    private static void cutOffOffices() {
        Edge x = new Edge(1, "offices that are cut off and pay by their lists");
        fillTills(x, 100);
        x.orders(4, 0, 50);
        x.list(2, 12).is(1);
        x.list(5, 24).is(1);
        x.cut(2, true).is(1);
        x.cut(5, true).is(1);
        x.pay(2, 36, 0, 5).is(STATE);
        x.pay(2, 24, 0, 5).is(STATE);
        x.pay(5, 12, 0, 5).is(STATE);
        x.pay(0, 12, 0, 5).is(STATE);
        x.pay(2, 12, 0, 5).is(1);
        x.pay(5, 24, 0, 5).is(1);
        x.pay(0, 36, 0, 5).is(1);
        x.cut(2, false).is(1);
        x.pay(2, 48, 0, 5).is(1);
    }

    private static void bars() {
        Edge x = new Edge(1, "bars");
        x.orders(2, 0, 50);
        x.list(3, 12).is(1);
        x.bar(12, 20).is(1);
        x.since(12).is(20);
        x.since(24).is(NONE);
        x.about(12, 4).is(NONE);
        for (int office = 0; office < 8; office++) {
            x.pay(office, 12, 0, 30).is(STATE);
        }
        x.pay(0, 24, 0, 30).is(1);
    }

    private static void lettersReplaced() {
        Edge x = new Edge(1, "letters replaced");
        x.order(6, 40, 50, 2, 9).is(12);
        x.bar(12, 20).is(1);
        x.replace(12).is(24);
        x.about(12, 0).is(REPLACED);
        x.about(24, 0).is(OPEN);
        x.about(24, 1).is(40);
        x.about(24, 2).is(6);
        x.since(12).is(20);
        x.since(24).is(NONE);
        x.till(6).is(40);
        x.all(0).is(40);
        x.pay(6, 24, 9, 50).is(1);
    }

    private static void ordersThatGoBack() {
        Edge x = new Edge(1, "orders that go back");
        x.order(6, 40, 50, 0, 9).is(12);
        x.order(6, 60, 51, 0, 9).is(24);
        x.tick(50).is(0);
        x.tick(51).is(1);
        x.about(12, 0).is(BACK);
        x.about(24, 0).is(OPEN);
        x.till(6).is(60);
        x.all(4).is(40);
        x.pay(6, 12, 9, 5).is(STATE);
        x.pay(6, 24, 9, 51).is(1);
    }

    /** What they answer is free, but each of them ends, and none throws. */
    private static void laterCallsEnd() {
        new Edge(1, "what later calls answer is free");
        long[] values = {Long.MIN_VALUE, -1, 0, 1, 3, 7, 8, 12, 24, 100, 1000000000L, Long.MAX_VALUE};
        OrderMoney x = new OrderMoney();
        for (int round = 0; round < 40; round++) {
            for (long a : values) {
                for (long b : values) {
                    makeEachCall(x, a, b);
                }
            }
        }
    }

    private static void makeEachCall(OrderMoney x, long a, long b) {
        int small = (int) a;
        int other = (int) b;
        x.order(small, b, a, other, small);
        x.order(0, 1, b, 0, 0);
        x.pay(small, b, small, a);
        x.fails(small, other);
        x.ask(small, b, 0, b);
        x.ask(0, a, 0, b);
        x.serve(small);
        x.answer(small);
        x.bar(a, b);
        x.since(a);
        x.replace(a);
        x.cut(small, b > 0);
        x.list(small, b);
        x.set(small, other, a);
        x.collect(small, b, small);
        x.pass(small);
        x.tick(a);
        x.about(a, other);
        x.till(small);
        x.all(small);
    }

    private static void fillTills(Edge x, long cents) {
        for (int office = 0; office < 8; office++) {
            x.set(0, office, cents).is(1);
        }
    }
}
