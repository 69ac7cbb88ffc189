/** Promise 10 at its boundaries. */
public final class Edge10ReplaceTest implements Answers {
    public static void main(String[] args) {
        openOrBarredAlone();
        onNoList();
        theSameOrder();
        theSameTime();
        unknownNumbers();
        room();
        roomForABarredOne();
        Edge.end();
    }

    private static void openOrBarredAlone() {
        Edge x = new Edge(10, "An order that is open or barred has its letter lost: it is replaced");
        x.orders(3, 0, 50);
        x.order(0, 1, 5, 0, 0).is(48);
        x.bar(24, 7).is(1);
        x.pay(0, 36, 0, 5).is(1);
        x.tick(6).is(1);
        x.replace(36).is(STATE);
        x.replace(48).is(STATE);
        x.replace(12).is(50);
        x.replace(24).is(62);
        x.about(12, 0).is(REPLACED);
        x.about(24, 0).is(REPLACED);
        x.about(36, 0).is(PAID);
        x.about(48, 0).is(BACK);
        x.about(50, 0).is(OPEN);
        x.about(62, 0).is(OPEN);
        x.replace(12).is(STATE);
        x.replace(24).is(STATE);
        x.replace(50).is(74);
    }

    private static void onNoList() {
        Edge x = new Edge(10, "it is replaced, on no list");
        x.orders(9, 0, 50);
        for (int n = 1; n <= 8; n++) {
            x.list(3, Watch.numberOf(n)).is(n);
        }
        x.list(3, 98).is(ROOM);
        x.replace(12).is(103);
        x.about(12, 4).is(NONE);
        x.about(103, 4).is(NONE);
        x.about(24, 4).is(3);
        x.list(3, 103).is(8);
        x.list(3, 98).is(ROOM);
        x.list(3, 12).is(STATE);
        // One that was on no list leaves none.
        x.replace(98).is(115);
        x.list(3, 115).is(ROOM);
    }

    private static void theSameOrder() {
        Edge x = new Edge(10, "a new order, open, with the same cents, time, currency, proof, office: its number");
        x.order(6, 500000, 50, 3, Integer.MAX_VALUE).is(12);
        x.set(2, 3, 1001).is(1);
        x.replace(12).is(24);
        x.about(24, 0).is(OPEN);
        x.about(24, 1).is(500000);
        x.about(24, 2).is(6);
        x.about(24, 3).is(NONE);
        x.about(24, 4).is(NONE);
        x.about(24, 5).is(500500);
        x.till(6).is(500000);
        x.all(0).is(500000);
        x.set(0, 6, 500).is(1);
        x.pay(6, 12, Integer.MAX_VALUE, 5).is(STATE);
        x.pay(6, 24, Integer.MAX_VALUE - 1, 5).is(WRONG);
        x.pay(6, 24, Integer.MAX_VALUE, 5).is(1);
        x.till(6).is(0);
    }

    private static void theSameTime() {
        for (long t = 49; t <= 51; t++) {
            Edge x = new Edge(10, "with the same cents, time, currency, proof, office");
            x.order(0, 1, 50, 0, 0).is(12);
            x.replace(12).is(24);
            x.pay(0, 24, 0, t).is(t > 50 ? STATE : 1);
        }
        for (long t = 49; t <= 51; t++) {
            Edge x = new Edge(10, "with the same cents, time, currency, proof, office");
            x.order(0, 1, 50, 0, 0).is(12);
            x.replace(12).is(24);
            x.tick(t).is(t > 50 ? 1 : 0);
            x.about(12, 0).is(REPLACED);
            x.about(24, 0).is(t > 50 ? BACK : OPEN);
        }
    }

    private static void unknownNumbers() {
        Edge x = new Edge(10, "UNKNOWN, STATE, ROOM.");
        x.replace(12).is(UNKNOWN);
        x.orders(1, 0, 50);
        x.replace(11).is(UNKNOWN);
        x.replace(13).is(UNKNOWN);
        x.replace(24).is(UNKNOWN);
        x.replace(12 + 4294967296L).is(UNKNOWN);
        x.replace(12).is(24);
        x.replace(24).is(36);
    }

    private static void room() {
        Edge x = new Edge(10, "UNKNOWN, STATE, ROOM.");
        x.orders(298, 0, 50);
        x.replace(12).is(2993);
        x.replace(24).is(3002);
        x.replace(36).is(ROOM);
        x.about(36, 0).is(OPEN);
        x.replace(3002).is(ROOM);
        x.about(3002, 0).is(OPEN);
        x.replace(24).is(STATE);
        x.order(0, 1, 50, 0, 0).is(ROOM);
        x.all(0).is(298);
        x.pay(0, 36, 0, 5).is(1);
    }

    private static void roomForABarredOne() {
        Edge x = new Edge(10, "UNKNOWN, STATE, ROOM.");
        x.orders(300, 0, 50);
        x.list(5, 24).is(1);
        x.bar(12, 7).is(1);
        x.replace(12).is(ROOM);
        x.replace(24).is(ROOM);
        x.about(12, 0).is(BARRED);
        x.since(12).is(7);
        x.about(24, 0).is(OPEN);
        x.about(24, 4).is(5);
        x.list(5, 36).is(2);
    }
}
