import java.io.IOException;
import java.lang.reflect.InvocationTargetException;
import java.lang.reflect.Method;
import java.lang.reflect.Modifier;
import java.nio.ByteBuffer;
import java.nio.charset.StandardCharsets;
import java.nio.file.Files;
import java.nio.file.Path;
import java.util.regex.Matcher;
import java.util.regex.Pattern;

/** The README's calls answer what is told behind them, it names all calls, and it feeds a text as is done here. */
public final class ReadmeTest {
    private static final Pattern CALL =
        Pattern.compile("forge\\.(\\w+)\\((?:feedText\\(forge, \"([^\"]*)\"\\)|([-0-9, ]*))\\); *// (\\S+?)(?::.*)?");
    private static ScaleForge forge = new ScaleForge();
    private static int calls = 0;
    private static int wrong = 0;

    public static void main(String[] args) throws IOException, IllegalAccessException {
        String readme = Files.readString(Path.of("README.md"));
        for (String line : readme.split("\n")) {
            if (line.startsWith("ScaleForge forge = new ScaleForge();")) {
                forge = new ScaleForge();
            } else if (line.startsWith("forge.")) {
                ask(line);
            }
        }
        check(calls > 40, "the README's calls were not read: " + calls);
        allCallsAreNamed(readme);
        textIsFedAsHere(readme);
        System.out.println(calls + " calls of the README, " + wrong + " wrong");
        if (wrong != 0) {
            System.exit(1);
        }
    }

    private static int feedText(ScaleForge forge, String text) {
        ByteBuffer bytes = ByteBuffer.allocate((text.length() + 19) / 20 * 20);
        bytes.put(text.getBytes(StandardCharsets.ISO_8859_1)).rewind();
        while (bytes.hasRemaining()) {
            forge.feed(bytes.getInt(), bytes.getInt(), bytes.getInt(), bytes.getInt(), bytes.getInt());
        }
        return text.length();
    }

    private static void check(boolean holds, String what) {
        if (!holds) {
            wrong++;
            System.out.println(what);
        }
    }

    private static void ask(String line) throws IllegalAccessException {
        Matcher call = CALL.matcher(line);
        if (!call.matches()) {
            check(false, "no answer is told: " + line);
            return;
        }
        String numbers = call.group(2) == null ? call.group(3) : "" + feedText(forge, call.group(2));
        String answer = answer(call.group(1), numbers.isEmpty() ? new String[0] : numbers.split(", "));
        String want = call.group(4).equals("NONE") ? "" + ScaleForge.NONE : call.group(4);
        check(answer.equals(want), line + " -- answered " + answer);
        calls++;
    }

    private static String answer(String name, String[] numbers) throws IllegalAccessException {
        for (Method method : ScaleForge.class.getDeclaredMethods()) {
            Class<?>[] types = method.getParameterTypes();
            if (Modifier.isPublic(method.getModifiers()) && method.getName().equals(name)) {
                Object[] arguments = new Object[types.length];
                for (int i = 0; i < types.length && i < numbers.length; i++) {
                    arguments[i] = number(types[i], numbers[i]);
                }
                return numbers.length == types.length ? answer(method, arguments) : "nothing: other numbers are due";
            }
        }
        return "nothing: no such call";
    }

    private static Object number(Class<?> type, String digits) {
        if (type == long.class) {
            return Long.valueOf(digits);
        }
        return Integer.valueOf(digits);
    }

    private static String answer(Method method, Object[] arguments) throws IllegalAccessException {
        try {
            return "" + method.invoke(forge, arguments);
        } catch (InvocationTargetException thrown) {
            return thrown.getCause().toString();
        }
    }

    private static void allCallsAreNamed(String readme) {
        for (Method method : ScaleForge.class.getDeclaredMethods()) {
            boolean isNamed = readme.contains("`" + method.getName() + "`");
            check(isNamed || !Modifier.isPublic(method.getModifiers()), "the README does not name " + method.getName());
        }
    }

    private static void textIsFedAsHere(String readme) throws IOException {
        Matcher fed = Pattern.compile("(?s)static int feedText.*?\n}\n").matcher(readme);
        String here = Files.readString(Path.of("src/test/java/ReadmeTest.java")).replaceAll("\\s+", " ");
        boolean isAsHere = fed.find() && here.contains(fed.group().trim().replaceAll("\\s+", " "));
        check(isAsHere, "a text is fed in another way here");
    }
}
