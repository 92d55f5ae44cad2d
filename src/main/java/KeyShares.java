/** Keys shared out among backends by hashes alone: by a table, by scores, and by scores with a bound. */
public final class KeyShares {
    public static final int NONE = -1;

    private static final int MOST_BACKENDS = 32;
    private static final int MOST_WEIGHT = 8;
    private static final int MOST_KEYS = 300;
    private static final int MOST_SLOTS = 997;
    private static final int MOST_SLACK = 300;
    private static final int FIRST_SIZE = 101;
    private static final int FIRST_SLACK = 25;
    private static final int PERCENT = 100;
    private static final int UNBOUNDED = -1;

    private static final long HASH_STRIDE = 0x9E3779B97F4A7C15L;
    private static final long FIRST_FACTOR = 0xBF58476D1CE4E5B9L;
    private static final long SECOND_FACTOR = 0x94D049BB133111EBL;

    private final Backends backends;
    private final Table table;
    private final Keys keys;
    private int toldSize;
    private int toldSlack;

    public KeyShares() {
        backends = new Backends();
        table = new Table();
        keys = new Keys();
        toldSize = FIRST_SIZE;
        toldSlack = FIRST_SLACK;
    }

    public long hash(long x, int k) {
        return nthHash(x, k);
    }

    public int backend(long id, int weight) {
        if (!isWeight(weight) || backends.hasId(id)) {
            return NONE;
        }
        return backends.admit(id, weight);
    }

    public int remove(int b) {
        Backend gone = backends.numbered(b);
        if (gone == null) {
            return NONE;
        }
        backends.dismiss(b);
        return shareOutAgain(gone);
    }

    public int state(int b, int up) {
        Backend one = backends.numbered(b);
        if (one == null || (up != 0 && up != 1) || one.up == (up == 1)) {
            return NONE;
        }
        one.up = up == 1;
        return one.up ? 0 : shareOutAgain(one);
    }

    public int weigh(int b, int weight) {
        Backend one = backends.numbered(b);
        if (one == null || !isWeight(weight)) {
            return 0;
        }
        one.weight = weight;
        return 1;
    }

    public int size(int p) {
        if (p < 2 || p > MOST_SLOTS || !isPrime(p)) {
            return 0;
        }
        toldSize = p;
        return 1;
    }

    public int slack(int percent) {
        if (percent < 0 || percent > MOST_SLACK) {
            return 0;
        }
        toldSlack = percent;
        return 1;
    }

    public int fill() {
        if (backends.upOnes() >= toldSize) {
            return NONE;
        }
        return table.refill(backends, toldSize);
    }

    public int slot(int k) {
        return table.takerOf(k);
    }

    public int lookup(long key) {
        return table.takerOf(rest(nthHash(key, 3), table.slots));
    }

    public int choice(long key) {
        return numberOf(greatest(key, UNBOUNDED));
    }

    public long best(long key, int b) {
        Backend one = backends.numbered(b);
        return one == null ? 0 : one.greatestScore(key);
    }

    public int come(long key) {
        int at = keys.indexOf(key);
        return at == NONE ? place(key) : keys.ownerAt(at);
    }

    public int go(long key) {
        int at = keys.indexOf(key);
        if (at == NONE) {
            return NONE;
        }
        int owner = keys.ownerAt(at);
        Backend one = backends.numbered(owner);
        if (one != null) {
            one.load--;
        }
        keys.dropAt(at);
        return owner;
    }

    public int of(int b, int what) {
        Backend one = backends.numbered(b);
        if (one == null) {
            return NONE;
        }
        switch (what) {
            case 0: return one.weight;
            case 1: return one.up ? 1 : 0;
            case 2: return one.load;
            case 3: return one.up ? roomFor(one, keys.held, backends.upWeight()) : 0;
            case 4: return table.slotsOf(b);
            case 5: return one.offsetIn(toldSize);
            case 6: return one.stepIn(toldSize);
            default: return NONE;
        }
    }

    public long id(int b) {
        Backend one = backends.numbered(b);
        return one == null ? 0 : one.name;
    }

    public int count(int what) {
        switch (what) {
            case 0: return backends.held;
            case 1: return backends.upOnes();
            case 2: return backends.upWeight();
            case 3: return keys.held;
            case 4: return toldSize;
            case 5: return table.slots;
            case 6: return table.movedFromUp;
            default: return NONE;
        }
    }

    public long key(int i) {
        return keys.keyAt(i);
    }

    public int check() {
        return table.isWhole() && loadsAreRight() ? 1 : 0;
    }

    private static long nthHash(long x, int k) {
        return mixed(x + k * HASH_STRIDE);
    }

    private static long mixed(long x) {
        long once = (x ^ (x >>> 30)) * FIRST_FACTOR;
        long twice = (once ^ (once >>> 27)) * SECOND_FACTOR;
        return twice ^ (twice >>> 31);
    }

    private static int rest(long x, int divisor) {
        return divisor < 1 ? 0 : (int) Long.remainderUnsigned(x, divisor);
    }

    private static boolean isWeight(int weight) {
        return weight >= 1 && weight <= MOST_WEIGHT;
    }

    private static boolean isPrime(int p) {
        for (int d = 2; d <= p / d; d++) {
            if (p % d == 0) {
                return false;
            }
        }
        return p >= 2;
    }

    private static int numberOf(Backend one) {
        return one == null ? NONE : one.number;
    }

    /** The backend with the greatest best; if inAll tells of keys, only of those that have room with so many. */
    private Backend greatest(long key, int inAll) {
        int allWeights = backends.upWeight();
        Backend chosen = null;
        long top = 0;
        // The least id comes first, so an equal score of a later one must not win.
        for (int i = 0; i < backends.held; i++) {
            Backend one = backends.inOrderOfIds(i);
            if (one == null || !one.up || !mayHaveOneMore(one, inAll, allWeights)) {
                continue;
            }
            long score = one.greatestScore(key);
            if (chosen == null || Long.compareUnsigned(score, top) > 0) {
                chosen = one;
                top = score;
            }
        }
        return chosen;
    }

    private boolean mayHaveOneMore(Backend one, int inAll, int allWeights) {
        return inAll == UNBOUNDED || one.load < roomFor(one, inAll, allWeights);
    }

    private int roomFor(Backend one, int inAll, int allWeights) {
        int divisor = PERCENT * allWeights;
        if (divisor < 1) {
            return 0;
        }
        return (one.weight * inAll * (PERCENT + toldSlack) + divisor - 1) / divisor;
    }

    private int place(long key) {
        if (keys.held >= MOST_KEYS) {
            return NONE;
        }
        Backend one = greatest(key, keys.held + 1);
        if (one == null) {
            return NONE;
        }
        keys.append(key, one.number);
        one.load++;
        return one.number;
    }

    /** All of the keys leave before the first comes again: each counts for the room only from then on. */
    private int shareOutAgain(Backend from) {
        int taken = keys.takeFrom(from.number);
        from.load = 0;
        int placed = 0;
        for (int i = 0; i < taken; i++) {
            if (place(keys.takenAt(i)) != NONE) {
                placed++;
            }
        }
        return placed;
    }

    private boolean loadsAreRight() {
        int loads = 0;
        for (int i = 0; i < backends.held; i++) {
            Backend one = backends.inOrderOfIds(i);
            if (one == null || one.load != keys.heldBy(one.number)) {
                return false;
            }
            loads += one.load;
        }
        return loads == keys.held;
    }

    private static final class Backend {
        private final int number;
        private final long name;
        // Hash 4 of the id goes into each score, so it is made but once.
        private final long salt;
        private int weight;
        private boolean up;
        private int load;
        private int nextSlot;
        private int step;

        Backend(int number, long name, int weight) {
            this.number = number;
            this.name = name;
            this.salt = nthHash(name, 4);
            this.weight = weight;
            this.up = true;
        }

        long greatestScore(long key) {
            long top = 0;
            for (int c = 1; c <= weight; c++) {
                long score = nthHash(key ^ salt, c);
                if (Long.compareUnsigned(score, top) > 0) {
                    top = score;
                }
            }
            return top;
        }

        int offsetIn(int slots) {
            return rest(nthHash(name, 1), slots);
        }

        int stepIn(int slots) {
            return 1 + rest(nthHash(name, 2), slots - 1);
        }

        void startWalk(int slots) {
            nextSlot = offsetIn(slots);
            step = stepIn(slots);
        }

        int walkOn(int slots) {
            int here = nextSlot;
            int there = here + step;
            nextSlot = there < slots ? there : there - slots;
            return here;
        }
    }

    /** Kept by number for the calls, and by id, the least first, for the turns at the table and for equal scores. */
    private static final class Backends {
        private final Backend[] byNumber = new Backend[MOST_BACKENDS];
        private final Backend[] byId = new Backend[MOST_BACKENDS];
        private int held;

        Backend numbered(int b) {
            return b < 0 || b >= MOST_BACKENDS ? null : byNumber[b];
        }

        Backend inOrderOfIds(int i) {
            return i < 0 || i >= held ? null : byId[i];
        }

        boolean hasId(long name) {
            for (int i = 0; i < held; i++) {
                Backend one = byId[i];
                if (one != null && one.name == name) {
                    return true;
                }
            }
            return false;
        }

        int admit(long name, int weight) {
            for (int b = 0; b < MOST_BACKENDS; b++) {
                if (byNumber[b] == null) {
                    byNumber[b] = new Backend(b, name, weight);
                    enqueue(byNumber[b]);
                    return b;
                }
            }
            return NONE;
        }

        void dismiss(int b) {
            Backend gone = numbered(b);
            if (gone == null) {
                return;
            }
            byNumber[b] = null;
            int kept = 0;
            for (int i = 0; i < held; i++) {
                if (byId[i] != gone) {
                    byId[kept] = byId[i];
                    kept++;
                }
            }
            held = kept;
        }

        int upOnes() {
            int sum = 0;
            for (int i = 0; i < held; i++) {
                Backend one = byId[i];
                sum += one != null && one.up ? 1 : 0;
            }
            return sum;
        }

        int upWeight() {
            int sum = 0;
            for (int i = 0; i < held; i++) {
                Backend one = byId[i];
                sum += one != null && one.up ? one.weight : 0;
            }
            return sum;
        }

        boolean hasUp(int b) {
            Backend one = numbered(b);
            return one != null && one.up;
        }

        private void enqueue(Backend one) {
            if (held >= MOST_BACKENDS) {
                return;
            }
            int at = held;
            while (at > 0 && isBefore(one, byId[at - 1])) {
                byId[at] = byId[at - 1];
                at--;
            }
            byId[at] = one;
            held++;
        }

        private static boolean isBefore(Backend one, Backend other) {
            return one != null && other != null && Long.compareUnsigned(one.name, other.name) < 0;
        }
    }

    /** It keeps numbers, not backends: a slot tells who took it also when that one is no more. */
    private static final class Table {
        private final int[] takers = new int[MOST_SLOTS];
        private final int[] before = new int[MOST_SLOTS];
        private int slots;
        private int movedFromUp;
        private boolean hadTakers;

        int takerOf(int k) {
            return k < 0 || k >= slots ? NONE : takers[k];
        }

        int slotsOf(int number) {
            int sum = 0;
            for (int k = 0; k < slots; k++) {
                sum += takers[k] == number ? 1 : 0;
            }
            return sum;
        }

        boolean isWhole() {
            return !hadTakers || slotsOf(NONE) == 0;
        }

        int refill(Backends backends, int size) {
            if (size < 1 || size > MOST_SLOTS) {
                return NONE;
            }
            boolean sameSize = size == slots;
            System.arraycopy(takers, 0, before, 0, slots);
            slots = size;
            clear();
            hadTakers = backends.upOnes() > 0;
            if (hadTakers) {
                takeAll(backends);
            }
            movedFromUp = sameSize ? changesFromUp(backends) : 0;
            return sameSize ? changes() : size;
        }

        private void clear() {
            for (int k = 0; k < slots; k++) {
                takers[k] = NONE;
            }
        }

        private void takeAll(Backends backends) {
            for (int i = 0; i < backends.held; i++) {
                Backend one = backends.inOrderOfIds(i);
                if (one != null) {
                    one.startWalk(slots);
                }
            }
            int free = slots;
            // A round takes one slot at least, so there are never more rounds than slots.
            for (int round = 0; round < slots && free > 0; round++) {
                free -= takeRound(backends, free);
            }
        }

        private int takeRound(Backends backends, int free) {
            int taken = 0;
            for (int i = 0; i < backends.held; i++) {
                Backend one = backends.inOrderOfIds(i);
                if (one != null && one.up) {
                    taken += takeTurn(one, free - taken);
                }
            }
            return taken;
        }

        private int takeTurn(Backend one, int free) {
            int turns = Math.min(one.weight, free);
            for (int turn = 0; turn < turns; turn++) {
                takeNext(one);
            }
            return turns;
        }

        private void takeNext(Backend one) {
            for (int tries = 0; tries < slots; tries++) {
                int k = one.walkOn(slots);
                if (k >= 0 && k < slots && takers[k] == NONE) {
                    takers[k] = one.number;
                    return;
                }
            }
        }

        private int changes() {
            int sum = 0;
            for (int k = 0; k < slots; k++) {
                sum += takers[k] != before[k] ? 1 : 0;
            }
            return sum;
        }

        private int changesFromUp(Backends backends) {
            int sum = 0;
            for (int k = 0; k < slots; k++) {
                sum += takers[k] != before[k] && backends.hasUp(before[k]) ? 1 : 0;
            }
            return sum;
        }
    }

    /** The keys that have a backend, in the order in which they came. */
    private static final class Keys {
        private final long[] row = new long[MOST_KEYS];
        private final int[] owners = new int[MOST_KEYS];
        private final long[] taken = new long[MOST_KEYS];
        private int held;

        int indexOf(long wanted) {
            for (int i = 0; i < held; i++) {
                if (row[i] == wanted) {
                    return i;
                }
            }
            return NONE;
        }

        long keyAt(int i) {
            return i < 0 || i >= held ? 0 : row[i];
        }

        int ownerAt(int i) {
            return i < 0 || i >= held ? NONE : owners[i];
        }

        long takenAt(int i) {
            return i < 0 || i >= MOST_KEYS ? 0 : taken[i];
        }

        int heldBy(int owner) {
            int sum = 0;
            for (int i = 0; i < held; i++) {
                sum += owners[i] == owner ? 1 : 0;
            }
            return sum;
        }

        void append(long newKey, int owner) {
            if (held < MOST_KEYS) {
                row[held] = newKey;
                owners[held] = owner;
                held++;
            }
        }

        void dropAt(int at) {
            if (at < 0 || at >= held) {
                return;
            }
            held--;
            for (int i = at; i < held; i++) {
                row[i] = row[i + 1];
                owners[i] = owners[i + 1];
            }
        }

        int takeFrom(int owner) {
            int out = 0;
            int kept = 0;
            for (int i = 0; i < held; i++) {
                if (owners[i] == owner) {
                    taken[out] = row[i];
                    out++;
                } else {
                    row[kept] = row[i];
                    owners[kept] = owners[i];
                    kept++;
                }
            }
            held = kept;
            return out;
        }
    }
}
