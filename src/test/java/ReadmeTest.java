import java.io.IOException;
import java.lang.reflect.Method;
import java.lang.reflect.Modifier;
import java.nio.file.Files;
import java.nio.file.Path;
import java.util.List;
import java.util.TreeMap;
import java.util.regex.Matcher;
import java.util.regex.Pattern;

/** README.md tells the truth: its example answers what stands behind each call, and no call of the face is left out. */
public final class ReadmeTest {
    private static final Path README = Path.of("README.md");
    private static final Pattern CALL = Pattern.compile("shares\\.(\\w+)\\((.*)\\); +// (-?\\d+)(:.*)?");

    private static final Due DUE = new Due();

    private ReadmeTest() {
    }

    public static void main(String[] args) throws IOException, ReflectiveOperationException {
        String text = Files.readString(README);
        TreeMap<String, Method> calls = calls();
        example(text, calls);
        for (String name : calls.keySet()) {
            DUE.holds("README.md has a row for " + name, text.contains("\n| `" + name + "("));
        }
        DUE.end();
    }

    private static TreeMap<String, Method> calls() {
        TreeMap<String, Method> calls = new TreeMap<>();
        for (Method method : KeyShares.class.getDeclaredMethods()) {
            if (Modifier.isPublic(method.getModifiers())) {
                calls.put(method.getName(), method);
            }
        }
        return calls;
    }

    private static void example(String text, TreeMap<String, Method> calls) throws ReflectiveOperationException {
        KeyShares shares = new KeyShares();
        List<String> lines = text.lines().filter(line -> line.startsWith("shares.")).toList();
        DUE.holds("README.md has an example", !lines.isEmpty());
        for (String line : lines) {
            Matcher told = CALL.matcher(line);
            if (!told.matches() || !calls.containsKey(told.group(1))) {
                DUE.holds("a call and its answer: " + line, false);
                continue;
            }
            Method method = calls.get(told.group(1));
            Number got = (Number) method.invoke(shares, arguments(method, told.group(2)));
            DUE.is(line, got.longValue(), Long.parseLong(told.group(3)));
        }
    }

    private static Object[] arguments(Method method, String text) {
        Class<?>[] types = method.getParameterTypes();
        String[] words = text.isEmpty() ? new String[0] : text.split(", ");
        Object[] arguments = new Object[words.length];
        for (int i = 0; i < words.length; i++) {
            boolean isInt = i < types.length && types[i] == int.class;
            arguments[i] = isInt ? (Object) Integer.valueOf(words[i]) : Long.valueOf(words[i].replace("L", ""));
        }
        return arguments;
    }
}
