import java.util.ArrayList;
import java.util.List;
import java.util.function.ToLongFunction;

/**
 * A sentence of the document, a boundary case that it names mostly, and one object on which it is tried.
 * At the end each run is made again without its refused calls: as those change nothing, all
 * other answers must be the same ones.
 */
final class Edge {
    private static final int MOST_CALLS = 512;
    private static final int CALLS_FOR_A_BALANCE = Watch.OFFICES + 6;
    private static final List<Edge> ALL = new ArrayList<>();
    private static int wrong;

    private final String title;
    private final OrderMoney money = new OrderMoney();
    private final List<Call> unrefused = new ArrayList<>();
    private int calls;
    private boolean isTooLong;

    private record Call(String text, ToLongFunction<OrderMoney> body, long came) {
    }

    /** What a call came to, to be held against what is due. */
    static final class Answer {
        private final Edge edge;
        private final String text;
        private final long came;

        private Answer(Edge edge, String text, long came) {
            this.edge = edge;
            this.text = text;
            this.came = came;
        }

        void is(long due) {
            if (came != due) {
                edge.tell(text + " answered " + came + ", due is " + due);
            }
        }
    }

    Edge(int promise, String sentence) {
        title = "promise " + promise + ", \"" + sentence + "\"";
        if (!Document.says(promise, sentence)) {
            tell("the document does not say this in its terms or at this promise");
        }
        ALL.add(this);
    }

    static void end() {
        for (Edge edge : ALL) {
            edge.againWithoutRefusedCalls();
        }
        if (wrong != 0) {
            System.out.println(wrong + " answers are not as due");
            System.exit(1);
        }
    }

    Answer order(int office, long cents, long until, int currency, int proof) {
        return call(text("order", office, cents, until, currency, proof),
            x -> x.order(office, cents, until, currency, proof));
    }

    /** So many orders in a row at an office, each of 1 cent in currency 0 with proof 0. */
    void orders(int count, int office, long until) {
        for (int i = 0; i < count; i++) {
            order(office, 1, until, 0, 0);
        }
    }

    Answer pay(int office, long number, int proof, long t) {
        return call(text("pay", office, number, proof, t), x -> x.pay(office, number, proof, t));
    }

    Answer fails(int office, int step) {
        return call(text("fails", office, step), x -> x.fails(office, step));
    }

    Answer ask(int office, long number, int proof, long t) {
        return call(text("ask", office, number, proof, t), x -> x.ask(office, number, proof, t));
    }

    Answer serve(int n) {
        return call(text("serve", n), x -> x.serve(n));
    }

    Answer answer(int trial) {
        return call(text("answer", trial), x -> x.answer(trial));
    }

    Answer bar(long number, long t) {
        return call(text("bar", number, t), x -> x.bar(number, t));
    }

    Answer since(long number) {
        return call(text("since", number), x -> x.since(number));
    }

    Answer replace(long number) {
        return call(text("replace", number), x -> x.replace(number));
    }

    Answer cut(int office, boolean is) {
        return call("cut(" + office + ", " + is + ")", x -> x.cut(office, is));
    }

    Answer list(int office, long number) {
        return call(text("list", office, number), x -> x.list(office, number));
    }

    Answer set(int what, int office, long v) {
        return call(text("set", what, office, v), x -> x.set(what, office, v));
    }

    Answer collect(int office, long cents, int day) {
        return call(text("collect", office, cents, day), x -> x.collect(office, cents, day));
    }

    Answer pass(int day) {
        return call(text("pass", day), x -> x.pass(day));
    }

    Answer tick(long t) {
        return call(text("tick", t), x -> x.tick(t));
    }

    Answer about(long number, int what) {
        return call(text("about", number, what), x -> x.about(number, what));
    }

    Answer till(int office) {
        return call(text("till", office), x -> x.till(office));
    }

    Answer all(int what) {
        return call(text("all", what), x -> x.all(what));
    }

    /** The tills in all, less what came into them, and what went out of them: 0 if they balance. */
    Answer balance() {
        calls += CALLS_FOR_A_BALANCE - 1;
        return call("the balance", Watch::balance);
    }

    private Answer call(String text, ToLongFunction<OrderMoney> body) {
        calls++;
        if (calls > MOST_CALLS && !isTooLong) {
            isTooLong = true;
            tell("the test makes more calls than the document promises an answer to");
        }
        long came = body.applyAsLong(money);
        if (!isWithoutTrace(came)) {
            unrefused.add(new Call(text, body, came));
        }
        return new Answer(this, text, came);
    }

    // A payment that is undone for WRONG, LIMITED or POOR leaves as little as a refused one.
    private static boolean isWithoutTrace(long came) {
        return came <= Answers.UNKNOWN && came >= Answers.POOR;
    }

    private void againWithoutRefusedCalls() {
        OrderMoney twin = new OrderMoney();
        for (Call call : unrefused) {
            long came = call.body.applyAsLong(twin);
            if (came != call.came) {
                tell(call.text + " answers " + call.came + " after calls that were refused, "
                    + came + " without them");
            }
        }
    }

    private void tell(String what) {
        wrong++;
        System.out.println(title + ": " + what);
    }

    private static String text(String name, long... arguments) {
        StringBuilder text = new StringBuilder(name).append('(');
        for (int i = 0; i < arguments.length; i++) {
            text.append(i == 0 ? "" : ", ").append(arguments[i]);
        }
        return text.append(')').toString();
    }
}
