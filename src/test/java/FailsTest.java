/** Promise 4: steps that are told to fail, and what is undone. */
public final class FailsTest {
    private static final Check CHECK = new Check();

    public static void main(String[] args) {
        refusesWhatIsOutside();
        eachStepFailsOnce();
        failsBeforeTheStepIsLookedAt();
        staysUntilAPaymentComesToIt();
        staysForItsOwnOffice();
        severalStepsStay();
        failsForTriesToo();
        CHECK.end();
    }

    private static void refusesWhatIsOutside() {
        OrderMoney x = new OrderMoney();
        CHECK.same("office -1", x.fails(-1, 1), OrderMoney.OUTSIDE);
        CHECK.same("office 8", x.fails(8, 1), OrderMoney.OUTSIDE);
        CHECK.same("step 0", x.fails(0, 0), OrderMoney.OUTSIDE);
        CHECK.same("step 6", x.fails(0, 6), OrderMoney.OUTSIDE);
        CHECK.same("step -1", x.fails(0, -1), OrderMoney.OUTSIDE);
        CHECK.same("step 33", x.fails(0, 33), OrderMoney.OUTSIDE);
        x.order(0, 5, 5, 0, 0);
        CHECK.same("none of them was told", x.pay(0, 12, 0, 0), 1);
    }

    private static void eachStepFailsOnce() {
        for (int step = 1; step <= 5; step++) {
            OrderMoney x = new OrderMoney();
            x.order(2, 100, 50, 0, 7);
            x.list(2, 12);
            CHECK.same("told", x.fails(2, step), 1);
            CHECK.same("told again", x.fails(2, step), 0);
            CHECK.same("step " + step, x.pay(2, 12, 7, 10), OrderMoney.FAILED);
            CHECK.same("the till", x.till(2), 100);
            CHECK.same("the state", x.about(12, 0), 0);
            CHECK.same("paid out nowhere", x.about(12, 3), OrderMoney.NONE);
            CHECK.same("still on the list", x.about(12, 4), 2);
            CHECK.same("all(1)", x.all(1), 0);
            CHECK.same("all(6)", x.all(6), 1);
            CHECK.same("all(8)", x.all(8), 0);
            CHECK.same("the next one", x.pay(2, 12, 7, 10), 1);
            CHECK.same("all(6) still", x.all(6), 1);
            CHECK.same("told anew", x.fails(2, step), 1);
        }
    }

    private static void failsBeforeTheStepIsLookedAt() {
        OrderMoney x = new OrderMoney();
        x.order(0, 100, 50, 0, 7);
        x.fails(1, 2);
        CHECK.same("before the proof", x.pay(1, 12, 8, 10), OrderMoney.FAILED);
        x.set(1, 1, 1);
        x.fails(1, 3);
        CHECK.same("before the limit", x.pay(1, 12, 7, 10), OrderMoney.FAILED);
        CHECK.same("then the limit", x.pay(1, 12, 7, 10), OrderMoney.LIMITED);
        x.set(1, 1, -1);
        x.fails(1, 4);
        CHECK.same("before the till", x.pay(1, 12, 7, 10), OrderMoney.FAILED);
        CHECK.same("then the till", x.pay(1, 12, 7, 10), OrderMoney.POOR);
        CHECK.same("all(6)", x.all(6), 3);
    }

    private static void staysUntilAPaymentComesToIt() {
        OrderMoney x = new OrderMoney();
        x.order(0, 100, 50, 0, 7);
        x.fails(0, 1);
        CHECK.same("unknown", x.pay(0, 13, 7, 10), OrderMoney.UNKNOWN);
        CHECK.same("outside", x.pay(0, 12, 7, -1), OrderMoney.OUTSIDE);
        CHECK.same("state", x.pay(0, 12, 7, 51), OrderMoney.STATE);
        CHECK.same("step 1 is told still", x.fails(0, 1), 0);
        CHECK.same("step 1", x.pay(0, 12, 7, 10), OrderMoney.FAILED);
        x.fails(0, 3);
        x.fails(0, 5);
        CHECK.same("wrong", x.pay(0, 12, 8, 10), OrderMoney.WRONG);
        CHECK.same("step 3", x.pay(0, 12, 7, 10), OrderMoney.FAILED);
        x.set(1, 0, 99);
        CHECK.same("limited", x.pay(0, 12, 7, 10), OrderMoney.LIMITED);
        x.set(1, 0, -1);
        x.set(0, 0, -1);
        CHECK.same("poor", x.pay(0, 12, 7, 10), OrderMoney.POOR);
        x.set(0, 0, 1);
        CHECK.same("step 5", x.pay(0, 12, 7, 10), OrderMoney.FAILED);
        CHECK.same("paid", x.pay(0, 12, 7, 10), 1);
    }

    private static void staysForItsOwnOffice() {
        OrderMoney x = new OrderMoney();
        x.order(0, 100, 50, 0, 7);
        x.order(1, 100, 50, 0, 7);
        x.fails(0, 4);
        CHECK.same("another office", x.pay(1, 12, 7, 10), 1);
        CHECK.same("the office", x.pay(0, 24, 7, 10), OrderMoney.FAILED);
    }

    private static void severalStepsStay() {
        OrderMoney x = new OrderMoney();
        x.order(0, 100, 50, 0, 7);
        for (int step = 5; step >= 1; step--) {
            CHECK.same("told " + step, x.fails(0, step), 1);
        }
        for (int step = 1; step <= 5; step++) {
            CHECK.same("fails at " + step, x.pay(0, 12, 7, 10), OrderMoney.FAILED);
            CHECK.same("told anew " + step, x.fails(0, step), 1);
            CHECK.same("fails again at " + step, x.pay(0, 12, 7, 10), OrderMoney.FAILED);
        }
        CHECK.same("paid", x.pay(0, 12, 7, 10), 1);
        CHECK.same("all(6)", x.all(6), 10);
    }

    private static void failsForTriesToo() {
        OrderMoney x = new OrderMoney();
        x.order(0, 100, 50, 0, 7);
        x.ask(0, 12, 7, 10);
        x.ask(0, 12, 7, 10);
        x.fails(0, 5);
        CHECK.same("served", x.serve(2), 2);
        CHECK.same("answer(0)", x.answer(0), OrderMoney.FAILED);
        CHECK.same("answer(1)", x.answer(1), 1);
        CHECK.same("all(6)", x.all(6), 1);
    }
}
