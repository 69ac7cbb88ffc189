/** Promise 12 at its boundaries. */
public final class Edge12ListTest implements Answers {
    private static final String NO_STATE = "STATE (it is not open, it is on a list, or the office is cut off)";

    public static void main(String[] args) {
        offices();
        unknownNumbers();
        notOpen();
        onAList();
        theOfficeIsCutOff();
        room();
        roomAgain();
        roomOfEachOffice();
        Edge.end();
    }

    private static void offices() {
        Edge x = new Edge(12, "UNKNOWN, OUTSIDE, STATE");
        x.orders(5, 0, 50);
        x.list(Integer.MIN_VALUE, 12).is(OUTSIDE);
        x.list(-1, 12).is(OUTSIDE);
        x.list(0, 12).is(1);
        x.list(1, 24).is(1);
        x.list(6, 36).is(1);
        x.list(8, 48).is(OUTSIDE);
        x.list(7, 48).is(1);
        x.list(Integer.MAX_VALUE, 50).is(OUTSIDE);
        x.about(12, 4).is(0);
        x.about(24, 4).is(1);
        x.about(36, 4).is(6);
        x.about(48, 4).is(7);
        x.about(50, 4).is(NONE);
    }

    private static void unknownNumbers() {
        Edge x = new Edge(12, "UNKNOWN, OUTSIDE, STATE");
        x.list(0, 12).is(UNKNOWN);
        x.orders(1, 0, 50);
        x.list(0, 11).is(UNKNOWN);
        x.list(0, 13).is(UNKNOWN);
        x.list(0, 24).is(UNKNOWN);
        x.list(0, 12 + 4294967296L).is(UNKNOWN);
        x.list(0, 12).is(1);
    }

    private static void notOpen() {
        Edge x = new Edge(12, NO_STATE);
        x.orders(4, 0, 50);
        x.order(0, 1, 5, 0, 0).is(50);
        x.pay(0, 12, 0, 5).is(1);
        x.bar(24, 7).is(1);
        x.replace(36).is(62);
        x.tick(6).is(1);
        x.list(0, 12).is(STATE);
        x.list(0, 24).is(STATE);
        x.list(0, 36).is(STATE);
        x.list(0, 50).is(STATE);
        x.list(0, 48).is(1);
        x.list(0, 62).is(2);
    }

    private static void onAList() {
        Edge x = new Edge(12, "An order may be on the LIST of one office");
        x.orders(2, 0, 50);
        x.list(3, 12).is(1);
        x.list(2, 12).is(STATE);
        x.list(3, 12).is(STATE);
        x.list(4, 12).is(STATE);
        x.about(12, 4).is(3);
        x.list(3, 24).is(2);
        x.list(2, 24).is(STATE);
        // When the list has ended the order may come onto another one.
        x.cut(3, true).is(1);
        x.cut(3, false).is(1);
        x.list(2, 12).is(1);
    }

    private static void theOfficeIsCutOff() {
        Edge x = new Edge(12, NO_STATE);
        x.orders(4, 0, 50);
        x.list(3, 12).is(1);
        x.cut(3, true).is(1);
        x.list(3, 24).is(STATE);
        x.list(2, 24).is(1);
        x.list(4, 36).is(1);
        x.cut(3, false).is(1);
        x.list(3, 48).is(1);
    }

    private static void room() {
        Edge x = new Edge(12, "(of at most 8 orders)");
        x.orders(10, 0, 50);
        for (int n = 1; n <= 6; n++) {
            x.list(3, Watch.numberOf(n)).is(n);
        }
        x.list(3, 74).is(7);
        x.list(3, 86).is(8);
        x.list(3, 98).is(ROOM);
        x.about(98, 4).is(NONE);
        x.list(3, 98).is(ROOM);
        x.pay(3, 98, 0, 5).is(POOR);
        x.list(4, 98).is(1);
    }

    private static void roomAgain() {
        Edge x = new Edge(12, "An open order comes onto an office's list: how many it has");
        for (int n = 1; n <= 12; n++) {
            x.order(3, 1, n == 4 ? 5 : 50, 0, 0).is(Watch.numberOf(n));
        }
        for (int n = 1; n <= 8; n++) {
            x.list(3, Watch.numberOf(n)).is(n);
        }
        x.pay(3, 12, 0, 5).is(1);
        x.list(3, 98).is(8);
        x.bar(24, 5).is(1);
        x.list(3, 103).is(8);
        x.replace(36).is(139);
        x.list(3, 115).is(8);
        x.tick(6).is(1);
        x.about(48, 4).is(NONE);
        x.list(3, 127).is(8);
        x.list(3, 139).is(ROOM);
        x.pay(3, 98, 0, 5).is(1);
        x.pay(3, 103, 0, 5).is(1);
        x.list(3, 139).is(7);
    }

    private static void roomOfEachOffice() {
        Edge x = new Edge(12, "ROOM (8)");
        x.orders(65, 0, 50);
        for (int n = 1; n <= 64; n++) {
            x.list((n - 1) / 8, Watch.numberOf(n)).is((n - 1) % 8 + 1);
        }
        for (int office = 0; office < 8; office++) {
            x.list(office, Watch.numberOf(65)).is(ROOM);
        }
        for (int n = 1; n <= 64; n++) {
            x.about(Watch.numberOf(n), 4).is((n - 1) / 8);
        }
    }
}
