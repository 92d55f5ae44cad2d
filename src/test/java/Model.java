import java.util.ArrayList;
import java.util.Arrays;
import java.util.Comparator;
import java.util.LinkedHashMap;
import java.util.List;
import java.util.Map;
import java.util.TreeMap;

/** The document said once more with Java's library, as plainly as can be and without a thought for speed. */
final class Model {
    private static final class One {
        final long id;
        int weight;
        boolean up = true;

        One(long id, int weight) {
            this.id = id;
            this.weight = weight;
        }
    }

    private final TreeMap<Integer, One> backends = new TreeMap<>();
    private final LinkedHashMap<Long, Integer> keys = new LinkedHashMap<>();
    private int[] table = new int[0];
    private int size = 101;
    private int slack = 25;
    private int moved = 0;

    static long hash(long x, int k) {
        long z = x + (long) k * 0x9E3779B97F4A7C15L;
        z ^= z >>> 30;
        z *= 0xBF58476D1CE4E5B9L;
        z ^= z >>> 27;
        z *= 0x94D049BB133111EBL;
        z ^= z >>> 31;
        return z;
    }

    int backend(long id, int weight) {
        boolean there = backends.values().stream().anyMatch(one -> one.id == id);
        if (there || weight < 1 || weight > 8 || backends.size() == 32) {
            return -1;
        }
        int number = 0;
        while (backends.containsKey(number)) {
            number++;
        }
        backends.put(number, new One(id, weight));
        return number;
    }

    int remove(int b) {
        return backends.remove(b) == null ? -1 : again(b);
    }

    int state(int b, int up) {
        One one = backends.get(b);
        if (one == null || up < 0 || up > 1 || one.up == (up == 1)) {
            return -1;
        }
        one.up = up == 1;
        return again(b, up);
    }

    int weigh(int b, int weight) {
        One one = backends.get(b);
        if (one == null || weight < 1 || weight > 8) {
            return 0;
        }
        one.weight = weight;
        return 1;
    }

    int size(int p) {
        if (p < 2 || p > 997) {
            return 0;
        }
        for (int d = 2; d < p; d++) {
            if (p % d == 0) {
                return 0;
            }
        }
        size = p;
        return 1;
    }

    int slack(int percent) {
        if (percent < 0 || percent > 300) {
            return 0;
        }
        slack = percent;
        return 1;
    }

    int fill() {
        List<Integer> ups = upsByIds();
        if (ups.size() >= size) {
            return -1;
        }
        int[] next = new int[size];
        Arrays.fill(next, -1);
        int taken = 0;
        int[] at = new int[32];
        while (!ups.isEmpty() && taken < size) {
            for (int b : ups) {
                for (int turn = 0; turn < backends.get(b).weight && taken < size; turn++) {
                    while (next[order(b, at[b])] != -1) {
                        at[b]++;
                    }
                    next[order(b, at[b])] = b;
                    taken++;
                }
            }
        }
        int changed = 0;
        moved = 0;
        for (int k = 0; k < size; k++) {
            if (table.length != size || table[k] != next[k]) {
                changed++;
                moved += table.length == size && ups.contains(table[k]) ? 1 : 0;
            }
        }
        table = next;
        return changed;
    }

    int slot(int k) {
        return k >= 0 && k < table.length ? table[k] : -1;
    }

    int lookup(long key) {
        return table.length == 0 ? -1 : table[(int) Long.remainderUnsigned(hash(key, 3), table.length)];
    }

    int choice(long key) {
        return greatest(key, upsByIds());
    }

    long best(long key, int b) {
        One one = backends.get(b);
        long top = 0;
        for (int c = 1; one != null && c <= one.weight; c++) {
            long score = hash(key ^ hash(one.id, 4), c);
            top = score + Long.MIN_VALUE > top + Long.MIN_VALUE ? score : top;
        }
        return top;
    }

    int come(long key) {
        if (keys.containsKey(key)) {
            return keys.get(key);
        }
        List<Integer> open = new ArrayList<>(upsByIds());
        open.removeIf(b -> load(b) >= room(b, keys.size() + 1));
        if (open.isEmpty() || keys.size() == 300) {
            return -1;
        }
        keys.put(key, greatest(key, open));
        return keys.get(key);
    }

    int go(long key) {
        Integer had = keys.remove(key);
        return had == null ? -1 : had;
    }

    int of(int b, int what) {
        One one = backends.get(b);
        if (one == null) {
            return -1;
        }
        return switch (what) {
            case 0 -> one.weight;
            case 1 -> one.up ? 1 : 0;
            case 2 -> load(b);
            case 3 -> one.up ? room(b, keys.size()) : 0;
            case 4 -> (int) Arrays.stream(table).filter(taker -> taker == b).count();
            case 5 -> order(b, 0);
            case 6 -> 1 + (int) Long.remainderUnsigned(hash(one.id, 2), size - 1);
            default -> -1;
        };
    }

    long id(int b) {
        return backends.containsKey(b) ? backends.get(b).id : 0;
    }

    int count(int what) {
        return switch (what) {
            case 0 -> backends.size();
            case 1 -> upsByIds().size();
            case 2 -> upWeights();
            case 3 -> keys.size();
            case 4 -> size;
            case 5 -> table.length;
            case 6 -> moved;
            default -> -1;
        };
    }

    long key(int i) {
        return i >= 0 && i < keys.size() ? new ArrayList<>(keys.keySet()).get(i) : 0;
    }

    int check() {
        return 1;
    }

    private int again(int b, int up) {
        return up == 1 ? 0 : again(b);
    }

    private int again(int b) {
        List<Long> taken = new ArrayList<>();
        for (Map.Entry<Long, Integer> entry : keys.entrySet()) {
            if (entry.getValue() == b) {
                taken.add(entry.getKey());
            }
        }
        keys.keySet().removeAll(taken);
        int placed = 0;
        for (long key : taken) {
            placed += come(key) == -1 ? 0 : 1;
        }
        return placed;
    }

    private List<Integer> upsByIds() {
        List<Integer> ups = new ArrayList<>(backends.keySet());
        ups.removeIf(b -> !backends.get(b).up);
        ups.sort(Comparator.comparingLong(b -> backends.get(b).id + Long.MIN_VALUE));
        return ups;
    }

    private int upWeights() {
        return upsByIds().stream().mapToInt(b -> backends.get(b).weight).sum();
    }

    private int order(int b, int n) {
        long id = backends.get(b).id;
        long offset = Long.remainderUnsigned(hash(id, 1), size);
        long step = 1 + Long.remainderUnsigned(hash(id, 2), size - 1);
        return (int) ((offset + n * step) % size);
    }

    private int greatest(long key, List<Integer> among) {
        int chosen = -1;
        for (int b : among) {
            if (chosen == -1 || Long.compareUnsigned(best(key, b), best(key, chosen)) > 0) {
                chosen = b;
            }
        }
        return chosen;
    }

    private int load(int b) {
        return (int) keys.values().stream().filter(owner -> owner == b).count();
    }

    private int room(int b, int inAll) {
        long share = (long) backends.get(b).weight * inAll * (100 + slack);
        return (int) -Math.floorDiv(-share, 100L * upWeights());
    }
}
