import java.io.IOException;
import java.lang.reflect.Method;
import java.nio.file.Files;
import java.nio.file.Path;
import java.util.regex.Matcher;
import java.util.regex.Pattern;

/** README.md tells how to use the class: its example's calls are made, and the names that it tells looked up. */
public final class ReadmeTest {
    private static final Check CHECK = new Check();
    private static final Pattern CALL = Pattern.compile("(?m)^post\\.(\\w+)\\((.*)\\); *// (-?\\d+)");
    private static final Pattern ANSWER = Pattern.compile("(?m)^\\| (-\\d+) \\| `(\\w+)` \\|");

    public static void main(String[] args) throws IOException, ReflectiveOperationException {
        String text = Files.readString(Path.of("README.md"));
        makesItsCalls(text);
        looksUpItsAnswers(text);
        namesEachMethod(text);
        CHECK.end();
    }

    private static void makesItsCalls(String text) throws ReflectiveOperationException {
        OrderMoney post = new OrderMoney();
        int calls = 0;
        Matcher matcher = CALL.matcher(text);
        while (matcher.find()) {
            Method method = methodOf(matcher.group(1));
            Number came = (Number) method.invoke(post, argumentsOf(method, matcher.group(2).split(", ")));
            CHECK.same("README.md: " + matcher.group(), came.longValue(), Long.parseLong(matcher.group(3)));
            calls++;
        }
        CHECK.holds("README.md has an example", calls > 0);
    }

    private static void looksUpItsAnswers(String text) throws ReflectiveOperationException {
        int answers = 0;
        Matcher matcher = ANSWER.matcher(text);
        while (matcher.find()) {
            long is = OrderMoney.class.getField(matcher.group(2)).getInt(null);
            CHECK.same("README.md: " + matcher.group(2), is, Long.parseLong(matcher.group(1)));
            answers++;
        }
        CHECK.same("README.md: the constants", answers, OrderMoney.class.getFields().length);
    }

    private static void namesEachMethod(String text) {
        for (String method : Document.methods()) {
            String name = method.substring(method.indexOf(' ') + 1, method.indexOf('('));
            CHECK.holds("README.md names " + name, text.contains("`" + name + "`"));
        }
    }

    private static Method methodOf(String name) throws NoSuchMethodException {
        for (Method method : OrderMoney.class.getMethods()) {
            if (method.getName().equals(name)) {
                return method;
            }
        }
        throw new NoSuchMethodException(name);
    }

    private static Object[] argumentsOf(Method method, String[] texts) {
        Class<?>[] types = method.getParameterTypes();
        Object[] arguments = new Object[texts.length];
        for (int i = 0; i < texts.length; i++) {
            if (types[i] == boolean.class) {
                arguments[i] = Boolean.valueOf(texts[i]);
            } else if (types[i] == long.class) {
                arguments[i] = Long.valueOf(texts[i]);
            } else {
                arguments[i] = Integer.valueOf(texts[i]);
            }
        }
        return arguments;
    }
}
