import java.io.IOException;
import java.lang.reflect.Constructor;
import java.lang.reflect.Executable;
import java.lang.reflect.Field;
import java.lang.reflect.Method;
import java.lang.reflect.Modifier;
import java.nio.file.Files;
import java.nio.file.Path;
import java.util.Arrays;
import java.util.Set;
import java.util.TreeSet;
import java.util.regex.Pattern;

/** The document's face, and the rules of LANGUAGE.md that can be read off the class or its text. */
public final class KeySharesFaceTest {
    private static final Path SOURCE = Path.of("src/main/java/KeyShares.java");

    private static final Set<String> FACE = Set.of(
        "long hash(long,int)", "int backend(long,int)", "int remove(int)", "int state(int,int)",
        "int weigh(int,int)", "int size(int)", "int slack(int)", "int fill()", "int slot(int)",
        "int lookup(long)", "int choice(long)", "long best(long,int)", "int come(long)", "int go(long)",
        "int of(int,int)", "long id(int)", "int count(int)", "long key(int)", "int check()");

    private static final String[] OUTSIDE = {
        "\\bimport\\b", "\\bpackage\\b", "\\bthrow\\b", "\\bthrows\\b", "\\btry\\b", "\\bcatch\\b", "\\bfinally\\b",
        "\\bsynchronized\\b", "\\bassert\\b", "->", "::", "\\bvar\\b", "\\bvolatile\\b", "Exact\\b",
        "\\bhashCode\\b", "\\btoString\\b", "\\bequals\\b", "while \\(true\\)", "for \\(;;\\)"};

    private static final Due DUE = new Due();

    private KeySharesFaceTest() {
    }

    public static void main(String[] args) throws IOException {
        face();
        classes();
        text();
        DUE.end();
    }

    private static void face() {
        Set<String> open = new TreeSet<>();
        for (Method method : KeyShares.class.getDeclaredMethods()) {
            if (!Modifier.isPrivate(method.getModifiers())) {
                open.add(told(method));
                DUE.holds(method + " is public and no more", method.getModifiers() == Modifier.PUBLIC);
            }
        }
        DUE.holds("the methods are those of the document: " + open, open.equals(FACE));
        DUE.holds("the class is public and final",
            KeyShares.class.getModifiers() == (Modifier.PUBLIC | Modifier.FINAL));
        Constructor<?>[] made = KeyShares.class.getDeclaredConstructors();
        DUE.holds("one public constructor without arguments", made.length == 1
            && made[0].getModifiers() == Modifier.PUBLIC && made[0].getParameterCount() == 0);
        for (Field field : KeyShares.class.getDeclaredFields()) {
            boolean isPublic = field.getModifiers() == (Modifier.PUBLIC | Modifier.STATIC | Modifier.FINAL);
            DUE.holds(field + " is NONE or private",
                field.getName().equals("NONE") ? isPublic : Modifier.isPrivate(field.getModifiers()));
        }
    }

    private static void classes() {
        Class<?>[] inside = KeyShares.class.getDeclaredClasses();
        DUE.holds("at most twelve classes", inside.length < 12);
        aClass(KeyShares.class);
        for (Class<?> one : inside) {
            int open = one.getModifiers() & (Modifier.PUBLIC | Modifier.PROTECTED);
            DUE.holds(one + " is static and not open", Modifier.isStatic(one.getModifiers()) && open == 0);
            aClass(one);
        }
    }

    private static void aClass(Class<?> one) {
        int fields = 0;
        for (Field field : one.getDeclaredFields()) {
            boolean isStatic = Modifier.isStatic(field.getModifiers());
            DUE.holds(field + " is final if static", !isStatic || Modifier.isFinal(field.getModifiers()));
            fields += isStatic ? 0 : 1;
        }
        DUE.holds(one + " has at most twenty fields", fields <= 20);
        for (Method method : one.getDeclaredMethods()) {
            fewParameters(method);
            boolean taken = FACE.stream().anyMatch(face -> face.contains(" " + method.getName() + "("));
            DUE.holds(method + " has a name of its own",
                !taken || (one == KeyShares.class && Modifier.isPublic(method.getModifiers())));
        }
        for (Constructor<?> made : one.getDeclaredConstructors()) {
            fewParameters(made);
        }
    }

    private static void fewParameters(Executable executable) {
        DUE.holds(executable + " takes at most seven", executable.getParameterCount() <= 7);
    }

    private static String told(Method method) {
        String types = String.join(",", Arrays.stream(method.getParameterTypes()).map(Class::getName).toList());
        return method.getReturnType().getName() + " " + method.getName() + "(" + types + ")";
    }

    private static void text() throws IOException {
        String text = Files.readString(SOURCE);
        String code = text.replaceAll("(?s)/\\*.*?\\*/", "").replaceAll("//[^\n]*", "");
        for (String pattern : OUTSIDE) {
            DUE.holds("the class does without " + pattern, !Pattern.compile(pattern).matcher(code).find());
        }
        DUE.holds("characters 0 to 127 alone", text.chars().allMatch(c -> c < 128));
    }
}
