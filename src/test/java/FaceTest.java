import java.io.IOException;
import java.lang.reflect.Constructor;
import java.lang.reflect.Field;
import java.lang.reflect.Method;
import java.lang.reflect.Modifier;
import java.nio.file.Files;
import java.nio.file.Path;
import java.util.Set;
import java.util.TreeSet;
import java.util.regex.Matcher;
import java.util.regex.Pattern;

/** The public face of the document, and the rules of LANGUAGE.md that can be seen without running. */
public final class FaceTest {
    private static final Check CHECK = new Check();
    private static final Set<String> METHODS = Set.of(
        "int order(int,long,long,int,int)", "int pay(int,long,int,long)", "int fails(int,int)",
        "int ask(int,long,int,long)", "int serve(int)", "int answer(int)", "int bar(long,long)",
        "long since(long)", "int replace(long)", "int cut(int,boolean)", "int list(int,long)",
        "int set(int,int,long)", "int collect(int,long,int)", "int pass(int)", "int tick(long)",
        "long about(long,int)", "long till(int)", "long all(int)");
    private static final Set<String> CONSTANTS = Set.of(
        "NONE=-1", "UNKNOWN=-101", "OUTSIDE=-102", "STATE=-103", "ROOM=-104",
        "WRONG=-105", "LIMITED=-106", "POOR=-107", "FAILED=-108");
    private static final Pattern LEFT_OUT = Pattern.compile(
        "\\b(throw|throws|try|catch|finally|synchronized|assert|import|package|\\w+Exact|volatile|native)\\b|->|::");

    public static void main(String[] args) throws IOException, IllegalAccessException {
        looksAtTheDocument();
        looksAtMembers();
        looksAtInnerClasses();
        looksAtWords();
        CHECK.end();
    }

    private static void looksAtTheDocument() {
        CHECK.holds("the document's methods are " + Document.methods(), Document.methods().equals(METHODS));
        CHECK.holds("the document's constants are " + Document.constants(), Document.constants().equals(CONSTANTS));
    }

    private static void looksAtMembers() throws IllegalAccessException {
        Class<?> face = OrderMoney.class;
        CHECK.holds("public and final", Modifier.isPublic(face.getModifiers()) && Modifier.isFinal(face.getModifiers()));
        Set<String> methods = new TreeSet<>();
        for (Method method : face.getDeclaredMethods()) {
            if (!Modifier.isPrivate(method.getModifiers())) {
                CHECK.holds(method + " is public", Modifier.isPublic(method.getModifiers()));
                methods.add(textOf(method));
            }
        }
        CHECK.holds("the methods are " + methods, methods.equals(METHODS));
        Set<String> constants = new TreeSet<>();
        for (Field field : face.getDeclaredFields()) {
            if (!Modifier.isPrivate(field.getModifiers())) {
                constants.add(field.getName() + "=" + field.getInt(null));
            }
            CHECK.holds(field + " is final if static",
                !Modifier.isStatic(field.getModifiers()) || Modifier.isFinal(field.getModifiers()));
        }
        CHECK.holds("the constants are " + constants, constants.equals(CONSTANTS));
        Constructor<?>[] made = face.getDeclaredConstructors();
        CHECK.holds("one public constructor", made.length == 1 && Modifier.isPublic(made[0].getModifiers())
            && made[0].getParameterCount() == 0);
    }

    private static void looksAtInnerClasses() {
        Set<String> open = new TreeSet<>();
        for (String method : METHODS) {
            open.add(method.substring(method.indexOf(' ') + 1, method.indexOf('(')));
        }
        for (Class<?> inner : OrderMoney.class.getDeclaredClasses()) {
            CHECK.holds(inner + " is static", Modifier.isStatic(inner.getModifiers()));
            CHECK.holds(inner + " is not public", !Modifier.isPublic(inner.getModifiers()));
            for (Method method : inner.getDeclaredMethods()) {
                CHECK.holds(method + " has a name of its own", !open.contains(method.getName()));
            }
        }
        for (Method method : OrderMoney.class.getDeclaredMethods()) {
            CHECK.holds(method + " has a name of its own",
                !Modifier.isPrivate(method.getModifiers()) || !open.contains(method.getName()));
        }
    }

    private static void looksAtWords() throws IOException {
        String text = Files.readString(Path.of("src/main/java/OrderMoney.java"));
        String code = text.replaceAll("(?s)/\\*.*?\\*/", "").replaceAll("//[^\n]*", "");
        Matcher matcher = LEFT_OUT.matcher(code);
        while (matcher.find()) {
            CHECK.holds("no '" + matcher.group() + "' in the class", false);
        }
    }

    private static String textOf(Method method) {
        StringBuilder text = new StringBuilder();
        text.append(method.getReturnType()).append(' ').append(method.getName()).append('(');
        String comma = "";
        for (Class<?> type : method.getParameterTypes()) {
            text.append(comma).append(type);
            comma = ",";
        }
        return text.append(')').toString();
    }
}
