/** Promise 11 at its boundaries. */
public final class Edge11CutTest implements Answers {
    public static void main(String[] args) {
        offices();
        wasSo();
        emptyAtTheEnd();
        emptyListAtTheEnd();
        emptyWithTheLastOrder();
        othersKeepTheirLists();
        notCutOffKeepsItsList();
        cutOffTwiceKeepsItsList();
        paysItsListAlone();
        Edge.end();
    }

    private static void offices() {
        Edge x = new Edge(11, "OUTSIDE.");
        x.cut(Integer.MIN_VALUE, true).is(OUTSIDE);
        x.cut(-1, true).is(OUTSIDE);
        x.cut(-1, false).is(OUTSIDE);
        x.cut(0, true).is(1);
        x.cut(1, true).is(1);
        x.cut(6, true).is(1);
        x.cut(7, true).is(1);
        x.cut(8, true).is(OUTSIDE);
        x.cut(8, false).is(OUTSIDE);
        x.cut(Integer.MAX_VALUE, true).is(OUTSIDE);
        for (int office = 2; office <= 5; office++) {
            x.cut(office, false).is(0);
        }
    }

    private static void wasSo() {
        Edge x = new Edge(11, "An office is cut off, or no more: 1; 0 if it was so");
        for (int office = 0; office < 8; office++) {
            x.cut(office, false).is(0);
            x.cut(office, true).is(1);
            x.cut(office, true).is(0);
            x.cut(office, false).is(1);
            x.cut(office, false).is(0);
            x.cut(office, true).is(1);
        }
    }

    private static void emptyAtTheEnd() {
        Edge x = new Edge(11, "When it is cut off no more, its list is empty");
        x.orders(9, 3, 50);
        for (int n = 1; n <= 8; n++) {
            x.list(3, Watch.numberOf(n)).is(n);
        }
        x.cut(3, true).is(1);
        for (int n = 1; n <= 8; n++) {
            x.about(Watch.numberOf(n), 4).is(3);
        }
        x.cut(3, false).is(1);
        for (int n = 1; n <= 8; n++) {
            x.about(Watch.numberOf(n), 4).is(NONE);
            x.about(Watch.numberOf(n), 0).is(OPEN);
        }
        for (int n = 8; n >= 1; n--) {
            x.list(3, Watch.numberOf(n)).is(9 - n);
        }
        x.list(3, 98).is(ROOM);
    }

    private static void emptyListAtTheEnd() {
        Edge x = new Edge(11, "When it is cut off no more, its list is empty");
        x.orders(2, 3, 50);
        x.cut(3, true).is(1);
        x.cut(3, false).is(1);
        x.list(3, 12).is(1);
        x.cut(3, true).is(1);
        x.pay(3, 12, 0, 5).is(1);
        x.cut(3, false).is(1);
        x.list(3, 24).is(1);
        // An order that was paid by the list stays paid.
        x.about(12, 0).is(PAID);
        x.about(12, 3).is(3);
    }

    private static void emptyWithTheLastOrder() {
        Edge x = new Edge(11, "When it is cut off no more, its list is empty");
        x.orders(300, 3, 50);
        x.list(3, 12).is(1);
        x.list(3, 2993).is(2);
        x.list(3, 3002).is(3);
        x.cut(3, true).is(1);
        x.cut(3, false).is(1);
        x.about(12, 4).is(NONE);
        x.about(2993, 4).is(NONE);
        x.about(3002, 4).is(NONE);
        x.list(3, 3002).is(1);
    }

    private static void othersKeepTheirLists() {
        Edge x = new Edge(11, "its list is empty");
        x.orders(5, 3, 50);
        x.list(2, 12).is(1);
        x.list(3, 24).is(1);
        x.list(4, 36).is(1);
        x.cut(2, true).is(1);
        x.cut(3, true).is(1);
        x.cut(3, false).is(1);
        x.about(12, 4).is(2);
        x.about(24, 4).is(NONE);
        x.about(36, 4).is(4);
        x.list(4, 48).is(2);
        x.list(3, 50).is(1);
        x.cut(2, true).is(0);
    }

    private static void notCutOffKeepsItsList() {
        Edge x = new Edge(11, "0 if it was so");
        x.orders(2, 3, 50);
        x.list(3, 12).is(1);
        x.cut(3, false).is(0);
        x.about(12, 4).is(3);
        x.pay(2, 12, 0, 5).is(STATE);
        x.list(3, 24).is(2);
    }

    private static void cutOffTwiceKeepsItsList() {
        Edge x = new Edge(11, "0 if it was so");
        x.orders(2, 3, 50);
        x.list(3, 12).is(1);
        x.cut(3, true).is(1);
        x.cut(3, true).is(0);
        x.about(12, 4).is(3);
        x.pay(3, 24, 0, 5).is(STATE);
        x.pay(3, 12, 0, 5).is(1);
    }

    private static void paysItsListAlone() {
        Edge x = new Edge(11, "An office that is cut off pays what is on its list alone");
        x.orders(3, 3, 50);
        x.list(3, 12).is(1);
        x.pay(3, 24, 0, 5).is(1);
        x.cut(3, true).is(1);
        x.pay(3, 36, 0, 5).is(STATE);
        x.pay(3, 12, 0, 5).is(1);
        x.cut(3, false).is(1);
        x.pay(3, 36, 0, 5).is(1);
    }
}
