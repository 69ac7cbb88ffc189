/** Promises 11 and 12: offices are cut off, and pay by their lists. */
public final class ListTest {
    private static final Check CHECK = new Check();

    public static void main(String[] args) {
        cuts();
        lists();
        refusesInOrder();
        aListIsForOneOffice();
        aCutOffOfficePaysItsListAlone();
        aListIsEmptyAfterwards();
        ordersLeaveTheList();
        worksWithAllTheOrdersThereCanBe();
        CHECK.end();
    }

    private static void cuts() {
        OrderMoney x = new OrderMoney();
        CHECK.same("office -1", x.cut(-1, true), OrderMoney.OUTSIDE);
        CHECK.same("office 8", x.cut(8, false), OrderMoney.OUTSIDE);
        CHECK.same("not cut off", x.cut(7, false), 0);
        CHECK.same("cut off", x.cut(7, true), 1);
        CHECK.same("cut off already", x.cut(7, true), 0);
        CHECK.same("another office", x.cut(6, false), 0);
        CHECK.same("no more", x.cut(7, false), 1);
        CHECK.same("no more already", x.cut(7, false), 0);
    }

    private static void lists() {
        OrderMoney x = orders(10);
        for (int n = 1; n <= 8; n++) {
            CHECK.same("list " + n, x.list(1, Watch.numberOf(n)), n);
            CHECK.same("its office", x.about(Watch.numberOf(n), 4), 1);
        }
        CHECK.same("a ninth", x.list(1, 98), OrderMoney.ROOM);
        CHECK.same("a ninth stays off", x.about(98, 4), OrderMoney.NONE);
        CHECK.same("another office's first", x.list(2, 98), 1);
        CHECK.same("on a list, full", x.list(1, 12), OrderMoney.STATE);
    }

    private static void refusesInOrder() {
        OrderMoney x = orders(5);
        CHECK.same("unknown, outside", x.list(8, 13), OrderMoney.UNKNOWN);
        CHECK.same("office 8", x.list(8, 12), OrderMoney.OUTSIDE);
        CHECK.same("office -1", x.list(-1, 12), OrderMoney.OUTSIDE);
        x.list(1, 12);
        CHECK.same("on the list already", x.list(1, 12), OrderMoney.STATE);
        CHECK.same("on another list", x.list(2, 12), OrderMoney.STATE);
        CHECK.same("on another list, outside", x.list(9, 12), OrderMoney.OUTSIDE);
        x.cut(3, true);
        CHECK.same("cut off", x.list(3, 24), OrderMoney.STATE);
        x.bar(24, 1);
        x.pay(0, 36, 7, 1);
        x.replace(48);
        CHECK.same("barred", x.list(1, 24), OrderMoney.STATE);
        CHECK.same("paid", x.list(1, 36), OrderMoney.STATE);
        CHECK.same("replaced", x.list(1, 48), OrderMoney.STATE);
        x.tick(51);
        CHECK.same("back", x.list(1, 50), OrderMoney.STATE);
    }

    private static void aListIsForOneOffice() {
        OrderMoney x = orders(2);
        x.set(0, 1, 1000);
        x.list(1, 12);
        CHECK.same("another office", x.pay(0, 12, 7, 5), OrderMoney.STATE);
        CHECK.same("its own", x.pay(1, 12, 7, 5), 1);
        CHECK.same("on no list then", x.about(12, 4), OrderMoney.NONE);
        CHECK.same("an order on no list", x.pay(1, 24, 7, 5), 1);
    }

    private static void aCutOffOfficePaysItsListAlone() {
        OrderMoney x = orders(3);
        x.set(0, 1, 1000);
        x.list(1, 12);
        x.list(2, 24);
        x.cut(1, true);
        CHECK.same("the list stays", x.about(12, 4), 1);
        CHECK.same("on no list", x.pay(1, 36, 7, 5), OrderMoney.STATE);
        CHECK.same("on another list", x.pay(1, 24, 7, 5), OrderMoney.STATE);
        CHECK.same("cut off once more", x.cut(1, true), 0);
        CHECK.same("on its list", x.pay(1, 12, 7, 5), 1);
        CHECK.same("an office that is not cut off", x.pay(0, 36, 7, 5), 1);
        CHECK.same("an order comes in all the same", x.order(1, 5, 50, 0, 7), 48);
    }

    private static void aListIsEmptyAfterwards() {
        OrderMoney x = orders(4);
        x.list(1, 12);
        x.list(1, 24);
        x.list(2, 36);
        CHECK.same("it was not cut off", x.cut(1, false), 0);
        CHECK.same("so the list stays", x.about(12, 4), 1);
        x.cut(1, true);
        CHECK.same("no more", x.cut(1, false), 1);
        CHECK.same("12 is on no list", x.about(12, 4), OrderMoney.NONE);
        CHECK.same("24 is on no list", x.about(24, 4), OrderMoney.NONE);
        CHECK.same("another list stays", x.about(36, 4), 2);
        CHECK.same("12 is open", x.about(12, 0), 0);
        CHECK.same("any office pays it", x.pay(0, 12, 7, 5), 1);
        CHECK.same("the list counts from 0", x.list(1, 48), 1);
    }

    private static void ordersLeaveTheList() {
        OrderMoney x = orders(12);
        for (int n = 1; n <= 8; n++) {
            x.list(0, Watch.numberOf(n));
        }
        x.pay(0, 12, 7, 5);
        CHECK.same("after a payment", x.list(0, 98), 8);
        x.bar(24, 5);
        CHECK.same("after a bar", x.list(0, 103), 8);
        x.replace(36);
        CHECK.same("after a replacement", x.list(0, 115), 8);
        CHECK.same("and full", x.list(0, 127), OrderMoney.ROOM);
        x.tick(51);
        CHECK.same("back", x.about(98, 4), OrderMoney.NONE);
        x.order(0, 5, 90, 0, 7);
        CHECK.same("after they went back", x.list(0, Watch.numberOf(14)), 1);
    }

    private static void worksWithAllTheOrdersThereCanBe() {
        OrderMoney x = orders(300);
        x.list(5, Watch.numberOf(300));
        x.cut(5, true);
        CHECK.same("no more", x.cut(5, false), 1);
        CHECK.same("the last order is on no list", x.about(Watch.numberOf(300), 4), OrderMoney.NONE);
        CHECK.same("all go back", x.tick(51), 300);
    }

    private static OrderMoney orders(int count) {
        OrderMoney x = new OrderMoney();
        for (int i = 0; i < count; i++) {
            x.order(0, 10, 50, 0, 7);
        }
        return x;
    }
}
