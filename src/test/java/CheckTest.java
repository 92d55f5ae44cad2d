import java.lang.reflect.Field;

/** No calls bring about what check() tells 0 of, so the fields are spoilt here behind the object's back. */
public final class CheckTest {
    private static final Due DUE = new Due();

    private CheckTest() {
    }

    public static void main(String[] args) throws ReflectiveOperationException {
        aSlotWithoutBackend();
        slotsWithoutBackendWhenNoneWasUp();
        aLoadThatIsNotThatOfTheKeys();
        aKeyOfAnotherBackend();
        DUE.end();
    }

    private static void aSlotWithoutBackend() throws ReflectiveOperationException {
        for (int k : new int[] {0, 50, 100}) {
            KeyShares x = settled();
            int[] takers = (int[]) inside(inside(x, "table"), "takers");
            int taker = takers[k];
            takers[k] = KeyShares.NONE;
            DUE.is("check(), slot " + k + " without a backend", x.check(), 0);
            takers[k] = taker;
            DUE.is("check(), slot " + k + " mended", x.check(), 1);
        }
    }

    private static void slotsWithoutBackendWhenNoneWasUp() throws ReflectiveOperationException {
        KeyShares x = settled();
        x.state(0, 0);
        x.state(1, 0);
        x.fill();
        int[] takers = (int[]) inside(inside(x, "table"), "takers");
        DUE.is("a slot's taker, filled when none was up", takers[0], KeyShares.NONE);
        DUE.is("check(), filled when none was up", x.check(), 1);
    }

    private static void aLoadThatIsNotThatOfTheKeys() throws ReflectiveOperationException {
        for (int off : new int[] {-1, 1}) {
            KeyShares x = settled();
            Object backend = ((Object[]) inside(inside(x, "backends"), "byNumber"))[1];
            Field load = field(backend, "load");
            int right = load.getInt(backend);
            load.setInt(backend, right + off);
            DUE.is("check(), a load off by " + off, x.check(), 0);
            load.setInt(backend, right);
            DUE.is("check(), the load mended", x.check(), 1);
        }
    }

    private static void aKeyOfAnotherBackend() throws ReflectiveOperationException {
        KeyShares x = settled();
        int[] owners = (int[]) inside(inside(x, "keys"), "owners");
        int right = owners[0];
        owners[0] = 1 - right;
        DUE.is("check(), a key of another backend", x.check(), 0);
        owners[0] = 7;
        DUE.is("check(), a key of no backend", x.check(), 0);
        Object backend = ((Object[]) inside(inside(x, "backends"), "byNumber"))[right];
        Field load = field(backend, "load");
        load.setInt(backend, load.getInt(backend) - 1);
        DUE.is("check(), a key of no backend that no load counts", x.check(), 0);
        owners[0] = right;
        load.setInt(backend, load.getInt(backend) + 1);
        DUE.is("check(), the key mended", x.check(), 1);
    }

    /** Two backends, a table of 101 slots, six keys. */
    private static KeyShares settled() {
        KeyShares x = new KeyShares();
        Edges.backends(x, 1, 2);
        x.fill();
        Edges.come(x, 1, 2, 3, 4, 5, 6);
        DUE.is("check(), nothing spoilt", x.check(), 1);
        return x;
    }

    private static Object inside(Object whole, String name) throws ReflectiveOperationException {
        return field(whole, name).get(whole);
    }

    private static Field field(Object whole, String name) throws ReflectiveOperationException {
        Field field = whole.getClass().getDeclaredField(name);
        field.setAccessible(true);
        return field;
    }
}
