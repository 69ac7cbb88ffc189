/** Promises 14 and 15: sums are collected, and passed on up to a day. */
public final class CollectTest {
    private static final Check CHECK = new Check();

    public static void main(String[] args) {
        collects();
        refuses();
        hasRoomForAHundred();
        passesUpToADay();
        passesAsTheyCame();
        CHECK.end();
    }

    private static void collects() {
        OrderMoney x = new OrderMoney();
        CHECK.same("first", x.collect(2, 500000, 0), 1);
        CHECK.same("second", x.collect(7, 1, 9999), 2);
        CHECK.same("till(2)", x.till(2), 500000);
        CHECK.same("till(7)", x.till(7), 1);
        CHECK.same("all(2)", x.all(2), 500001);
        CHECK.same("all(0)", x.all(0), 0);
        CHECK.same("pass(9999)", x.pass(9999), 2);
        CHECK.same("till(2) after it", x.till(2), 0);
        CHECK.same("all(3)", x.all(3), 500001);
        CHECK.same("all(2) still", x.all(2), 500001);
        CHECK.same("passed on once", x.pass(9999), 0);
    }

    private static void refuses() {
        OrderMoney x = new OrderMoney();
        CHECK.same("office -1", x.collect(-1, 1, 0), OrderMoney.OUTSIDE);
        CHECK.same("office 8", x.collect(8, 1, 0), OrderMoney.OUTSIDE);
        CHECK.same("cents 0", x.collect(0, 0, 0), OrderMoney.OUTSIDE);
        CHECK.same("cents 500001", x.collect(0, 500001, 0), OrderMoney.OUTSIDE);
        CHECK.same("cents 2^32 + 1", x.collect(0, 4294967297L, 0), OrderMoney.OUTSIDE);
        CHECK.same("day -1", x.collect(0, 1, -1), OrderMoney.OUTSIDE);
        CHECK.same("day 10000", x.collect(0, 1, 10000), OrderMoney.OUTSIDE);
        CHECK.same("till(0)", x.till(0), 0);
        CHECK.same("all(2)", x.all(2), 0);
        CHECK.same("none waits", x.collect(0, 1, 0), 1);
        CHECK.same("pass(-1)", x.pass(-1), OrderMoney.OUTSIDE);
        CHECK.same("pass(10000)", x.pass(10000), OrderMoney.OUTSIDE);
        CHECK.same("till(0) with it", x.till(0), 1);
        CHECK.same("pass(0)", x.pass(0), 1);
    }

    private static void hasRoomForAHundred() {
        OrderMoney x = new OrderMoney();
        for (int i = 1; i <= 100; i++) {
            CHECK.same("collect " + i, x.collect(i % 8, i, i), i);
        }
        long[] before = Watch.row(x);
        CHECK.same("one more", x.collect(0, 1, 0), OrderMoney.ROOM);
        CHECK.same("one more, outside", x.collect(8, 1, 0), OrderMoney.OUTSIDE);
        CHECK.holds("refused sums change nothing", Watch.isSame(before, x));
        CHECK.same("pass(1)", x.pass(1), 1);
        CHECK.same("room again", x.collect(0, 1, 0), 100);
        CHECK.same("pass all", x.pass(9999), 100);
        CHECK.same("from 1 on", x.collect(0, 1, 0), 1);
        CHECK.same("the tills balance", Watch.balance(x), 0);
    }

    private static void passesUpToADay() {
        OrderMoney x = new OrderMoney();
        x.collect(0, 1, 5);
        x.collect(0, 10, 3);
        x.collect(0, 100, 4);
        CHECK.same("pass(2)", x.pass(2), 0);
        CHECK.same("pass(4)", x.pass(4), 2);
        CHECK.same("till(0)", x.till(0), 1);
        CHECK.same("all(3)", x.all(3), 110);
        CHECK.same("one waits", x.collect(0, 7, 9), 2);
        CHECK.same("pass(5)", x.pass(5), 1);
        CHECK.same("till(0) with the last", x.till(0), 7);
    }

    private static void passesAsTheyCame() {
        OrderMoney x = new OrderMoney();
        x.collect(0, 60, 8);
        x.collect(0, 50, 1);
        x.collect(1, 70, 2);
        x.collect(0, 30, 3);
        x.set(0, 0, -50);
        CHECK.same("60 and 30, not 50", x.pass(9), 3);
        CHECK.same("till(0)", x.till(0), 0);
        CHECK.same("all(3)", x.all(3), 160);
        x.set(0, 0, 49);
        CHECK.same("less than it", x.pass(9), 0);
        CHECK.same("it waits still", x.collect(1, 5, 9), 2);
        x.set(0, 0, 1);
        CHECK.same("just enough", x.pass(8), 1);
        CHECK.same("the tills balance", Watch.balance(x), 0);
    }
}
