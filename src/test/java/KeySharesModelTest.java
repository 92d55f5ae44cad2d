import java.util.Random;

/** Long runs of mixed calls, the class and the model side by side; the seeds are fixed, so every run is the same. */
public final class KeySharesModelTest {
    private static final int CALLS = 512;
    private static final int RUNS = 1500;

    private static final String[] NAMES = {
        "hash", "backend", "remove", "state", "weigh", "size", "slack", "fill", "slot", "lookup",
        "choice", "best", "come", "go", "of", "id", "count", "key", "check"};

    // How often each call of NAMES is made, of those of one kind of run.
    private static final int[][] KINDS = {
        {1, 8, 3, 8, 4, 3, 2, 10, 6, 5, 5, 3, 20, 6, 12, 2, 8, 6, 2},
        {1, 4, 1, 3, 1, 1, 2, 1, 1, 1, 2, 1, 200, 4, 10, 1, 6, 6, 2},
        {1, 30, 4, 6, 6, 8, 1, 30, 20, 10, 10, 4, 2, 1, 20, 4, 12, 1, 4},
        {1, 6, 6, 20, 4, 1, 4, 2, 1, 1, 4, 1, 40, 8, 14, 1, 6, 10, 4}};

    private static final int[] SIZES = {2, 3, 5, 7, 11, 13, 31, 37, 97, 101, 499, 991, 997};
    private static final long[] IDS = {0, 1, -1, 2, Long.MIN_VALUE, Long.MAX_VALUE, Long.MIN_VALUE + 1, 77};

    private static final long[] EXTREMES = {Integer.MIN_VALUE, Integer.MAX_VALUE, -1, 0, 31, 32, 997, 300, 301};

    private KeySharesModelTest() {
    }

    public static void main(String[] args) {
        Due due = new Due();
        for (int run = 0; run < RUNS && !due.anyWrong(); run++) {
            compare(run, due);
        }
        due.end();
    }

    private static void compare(int run, Due due) {
        Random random = new Random(run);
        int[] kind = KINDS[run % KINDS.length];
        KeyShares x = new KeyShares();
        Model model = new Model();
        for (int call = 0; call < CALLS && !due.anyWrong(); call++) {
            int name = pick(random, kind);
            long a = first(random, NAMES[name], run);
            long b = second(random, NAMES[name]);
            String text = "run " + run + ", call " + call + ": " + NAMES[name] + "(" + a + ", " + b + ")";
            due.is(text, ask(x, NAMES[name], a, b), askModel(model, NAMES[name], a, b));
        }
    }

    private static int pick(Random random, int[] kind) {
        int all = 0;
        for (int often : kind) {
            all += often;
        }
        int at = random.nextInt(all);
        int name = 0;
        while (at >= kind[name]) {
            at -= kind[name];
            name++;
        }
        return name;
    }

    private static long first(Random random, String name, int run) {
        if (random.nextInt(60) == 0) {
            return EXTREMES[random.nextInt(EXTREMES.length)];
        }
        switch (name) {
            case "hash": return random.nextLong();
            case "backend": return random.nextInt(3) > 0 ? random.nextLong() : IDS[random.nextInt(IDS.length)];
            case "size": return random.nextInt(3) > 0 ? SIZES[random.nextInt(SIZES.length)] : random.nextInt(1100) - 20;
            case "slack": return random.nextInt(3) > 0 ? random.nextInt(40) : random.nextInt(400) - 50;
            case "slot": return random.nextInt(1000) - 1;
            case "lookup", "choice", "best": return random.nextLong();
            case "come", "go": return random.nextInt(run % 2 == 0 ? 60 : 2000) - 20;
            case "key": return random.nextInt(320) - 5;
            case "count": return random.nextInt(9) - 1;
            default: return random.nextInt(4) > 0 ? random.nextInt(8) : random.nextInt(36) - 2;
        }
    }

    private static long second(Random random, String name) {
        if (random.nextInt(60) == 0) {
            return EXTREMES[random.nextInt(EXTREMES.length)];
        }
        switch (name) {
            case "hash": return random.nextInt();
            case "backend", "weigh": return random.nextInt(10) > 0 ? 1 + random.nextInt(8) : random.nextInt(12) - 2;
            case "state": return random.nextInt(10) > 0 ? random.nextInt(2) : random.nextInt(5) - 2;
            case "best": return random.nextInt(35) - 2;
            default: return random.nextInt(9) - 1;
        }
    }

    private static long ask(KeyShares x, String name, long a, long b) {
        switch (name) {
            case "hash": return x.hash(a, (int) b);
            case "backend": return x.backend(a, (int) b);
            case "remove": return x.remove((int) a);
            case "state": return x.state((int) a, (int) b);
            case "weigh": return x.weigh((int) a, (int) b);
            case "size": return x.size((int) a);
            case "slack": return x.slack((int) a);
            case "fill": return x.fill();
            case "slot": return x.slot((int) a);
            case "lookup": return x.lookup(a);
            case "choice": return x.choice(a);
            case "best": return x.best(a, (int) b);
            case "come": return x.come(a);
            case "go": return x.go(a);
            case "of": return x.of((int) a, (int) b);
            case "id": return x.id((int) a);
            case "count": return x.count((int) a);
            case "key": return x.key((int) a);
            case "check": return x.check();
            default: throw new IllegalArgumentException(name);
        }
    }

    private static long askModel(Model x, String name, long a, long b) {
        switch (name) {
            case "hash": return Model.hash(a, (int) b);
            case "backend": return x.backend(a, (int) b);
            case "remove": return x.remove((int) a);
            case "state": return x.state((int) a, (int) b);
            case "weigh": return x.weigh((int) a, (int) b);
            case "size": return x.size((int) a);
            case "slack": return x.slack((int) a);
            case "fill": return x.fill();
            case "slot": return x.slot((int) a);
            case "lookup": return x.lookup(a);
            case "choice": return x.choice(a);
            case "best": return x.best(a, (int) b);
            case "come": return x.come(a);
            case "go": return x.go(a);
            case "of": return x.of((int) a, (int) b);
            case "id": return x.id((int) a);
            case "count": return x.count((int) a);
            case "key": return x.key((int) a);
            case "check": return x.check();
            default: throw new IllegalArgumentException(name);
        }
    }
}
