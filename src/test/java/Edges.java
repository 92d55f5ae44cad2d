import java.io.IOException;
import java.lang.reflect.InvocationTargetException;
import java.lang.reflect.Method;
import java.nio.file.Files;
import java.nio.file.Path;
import java.util.Arrays;
import java.util.Comparator;
import java.util.List;
import java.util.function.Consumer;
import java.util.function.ToLongFunction;

/** Runs a test's cases, each a method that bears the document's words for the boundary that it looks at. */
final class Edges {
    static final int NONE = -1;

    /** Numbers that no backend has while less than 32 are there. */
    static final int[] NO_BACKENDS = {-1, 31, 32, 33, -32, 256, Integer.MIN_VALUE, Integer.MAX_VALUE};

    private static final Path DOCUMENT = Path.of("../shared/DOC.md");
    private static final int MOST_BACKENDS = 32;
    private static final int MOST_ASKED = 12;

    private Edges() {
    }

    static void runAll(Class<?> test, int firstPromise, int lastPromise) throws IOException {
        List<Method> cases = Arrays.stream(test.getDeclaredMethods())
            .filter(method -> method.isAnnotationPresent(Says.class))
            .sorted(Comparator.<Method>comparingInt(method -> promiseOf(method)).thenComparing(Method::getName))
            .toList();
        Due due = new Due();
        for (Method one : cases) {
            run(one, due);
        }
        due.begin(test.getName());
        wordsAreTheDocuments(cases, due);
        for (int promise = firstPromise; promise <= lastPromise; promise++) {
            int wanted = promise;
            due.holds("a case for promise " + promise, cases.stream().anyMatch(one -> promiseOf(one) == wanted));
        }
        System.out.println(cases.size() + " cases");
        due.end();
    }

    /** A refused call answers as is due, and leaves the object as one that was not called. */
    static void refused(Due due, Consumer<KeyShares> before, ToLongFunction<KeyShares> call, long want) {
        KeyShares x = new KeyShares();
        KeyShares twin = new KeyShares();
        before.accept(x);
        before.accept(twin);
        due.is("the refused call", call.applyAsLong(x), want);
        alike(due, x, twin);
    }

    /** Three backends, of which 1 is down, six keys, a table of 7 slots and another size told since. */
    static void settle(KeyShares x) {
        x.size(7);
        x.slack(50);
        x.backend(10, 1);
        x.backend(-20, 2);
        x.backend(30, 3);
        x.fill();
        x.state(1, 0);
        x.fill();
        come(x, 1, 2, 3, 4, 5, 6);
        x.size(11);
    }

    static void backends(KeyShares x, long... ids) {
        for (long id : ids) {
            x.backend(id, 1);
        }
    }

    static void fullOfBackends(KeyShares x) {
        for (int b = 0; b < MOST_BACKENDS; b++) {
            x.backend(100 + b, 1 + b % 8);
        }
    }

    static void come(KeyShares x, long... keys) {
        for (long key : keys) {
            x.come(key);
        }
    }

    private static void run(Method one, Due due) {
        due.begin(one.getName());
        int asked = due.asked();
        try {
            one.invoke(null, due);
        } catch (InvocationTargetException thrown) {
            due.holds("nothing is thrown, but " + thrown.getCause(), false);
        } catch (IllegalAccessException closed) {
            due.holds("the case is open to the package", false);
        }
        due.holds("something was asked", due.asked() > asked);
    }

    private static int promiseOf(Method one) {
        return one.getAnnotation(Says.class).promise();
    }

    private static void wordsAreTheDocuments(List<Method> cases, Due due) throws IOException {
        if (!Files.exists(DOCUMENT)) {
            System.out.println("no " + DOCUMENT + " here: the cases' words are not looked up");
            return;
        }
        String[] sections = Files.readString(DOCUMENT).split("\n## ");
        for (Method one : cases) {
            String words = one.getAnnotation(Says.class).value();
            due.holds("\"" + words + "\" stands there for " + one.getName(), Arrays.stream(sections)
                .filter(section -> isOf(section, promiseOf(one))).anyMatch(section -> section.contains(words)));
        }
    }

    private static boolean isOf(String section, int promise) {
        return promise == 0 ? !section.startsWith("Promise ") : section.startsWith("Promise " + promise + ":");
    }

    private static void alike(Due due, KeyShares x, KeyShares twin) {
        for (int what = 0; what <= 6; what++) {
            int wanted = what;
            same(due, "count(" + what + ")", x, twin, one -> one.count(wanted));
        }
        for (int b = 0; b < MOST_BACKENDS; b++) {
            alikeBackend(due, b, x, twin);
        }
        for (int i = 0; i < MOST_ASKED; i++) {
            int nth = i;
            same(due, "key(" + i + ")", x, twin, one -> one.key(nth));
            same(due, "slot(" + i + ")", x, twin, one -> one.slot(nth));
            same(due, "lookup(" + i + ")", x, twin, one -> one.lookup(nth));
        }
        same(due, "check()", x, twin, one -> one.check());
        alikeFromHereOn(due, x, twin);
    }

    private static void alikeBackend(Due due, int b, KeyShares x, KeyShares twin) {
        same(due, "id(" + b + ")", x, twin, one -> one.id(b));
        boolean there = same(due, "of(" + b + ", 0)", x, twin, one -> one.of(b, 0)) != NONE;
        for (int what = 1; what <= 6 && there; what++) {
            int wanted = what;
            same(due, "of(" + b + ", " + what + ")", x, twin, one -> one.of(b, wanted));
        }
    }

    /** What a refused call did may show only later: in numbers, rooms and tables to come. */
    private static void alikeFromHereOn(Due due, KeyShares x, KeyShares twin) {
        same(due, "fill()", x, twin, one -> one.fill());
        same(due, "count(6) after fill()", x, twin, one -> one.count(6));
        same(due, "slot(0) after fill()", x, twin, one -> one.slot(0));
        same(due, "backend(4321, 2)", x, twin, one -> one.backend(4321, 2));
        for (long key = 900; key < 905; key++) {
            long next = key;
            same(due, "come(" + key + ")", x, twin, one -> one.come(next));
        }
        same(due, "state(0, 0)", x, twin, one -> one.state(0, 0));
        same(due, "state(1, 1)", x, twin, one -> one.state(1, 1));
        same(due, "count(3) at last", x, twin, one -> one.count(3));
    }

    private static long same(Due due, String call, KeyShares x, KeyShares twin, ToLongFunction<KeyShares> question) {
        long want = question.applyAsLong(twin);
        due.is(call + " after the refused call", question.applyAsLong(x), want);
        return want;
    }
}
