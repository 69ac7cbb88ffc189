/** Promise 1. */
public final class NewObjectTest {
    public static void main(String[] args) {
        Check check = new Check();
        OrderMoney x = new OrderMoney();
        for (int office = 0; office < 8; office++) {
            check.same("till(" + office + ")", x.till(office), 0);
        }
        for (int what = 0; what <= 8; what++) {
            check.same("all(" + what + ")", x.all(what), 0);
        }
        check.same("about(12, 0)", x.about(12, 0), OrderMoney.UNKNOWN);
        check.same("since(12)", x.since(12), OrderMoney.UNKNOWN);
        check.same("answer(0)", x.answer(0), OrderMoney.NONE);
        check.same("serve(5)", x.serve(5), 0);
        check.same("pass(9999)", x.pass(9999), 0);
        check.same("tick", x.tick(Long.MAX_VALUE), 0);
        check.same("a first order", x.order(0, 1, 0, 0, 0), 12);
        OrderMoney other = new OrderMoney();
        check.same("an object of its own", other.till(0), 0);
        check.same("orders of its own", other.about(12, 0), OrderMoney.UNKNOWN);
        check.end();
    }
}
