import java.math.BigInteger;
import java.util.Arrays;

/** Each promise of the document by itself: ordinary inputs, the edges that it names, wrong inputs. */
public final class KeySharesPromisesTest {
    private static final int NONE = -1;
    private static final long STRIDE = Hashes.STRIDE;
    private static final int[] WRONG_NUMBERS = {-1, 31, 32, 33, Integer.MIN_VALUE, Integer.MAX_VALUE};

    private static final Due DUE = new Due();

    private KeySharesPromisesTest() {
    }

    public static void main(String[] args) {
        promise1();
        promise2();
        promise3();
        promise4();
        promise5();
        promise6();
        promise7();
        promise8();
        promise9();
        promise9Orders();
        promise10();
        promise11();
        promise12();
        promise12Ties();
        promise13();
        promise14();
        promise14Rooms();
        promise14Ties();
        promise15();
        promise16();
        promise17();
        promise18();
        promise18Moves();
        promise19();
        promise20();
        DUE.end();
    }

    private static void due(int promise, String call, long got, long want) {
        DUE.is("promise " + promise + ": " + call, got, want);
    }

    private static void promise1() {
        KeyShares x = new KeyShares();
        int[] counts = {0, 0, 0, 0, 101, 0, 0};
        for (int what = 0; what < counts.length; what++) {
            due(1, "count(" + what + ")", x.count(what), counts[what]);
        }
        due(1, "slot(0)", x.slot(0), NONE);
        due(1, "lookup(0)", x.lookup(0), NONE);
        due(1, "choice(0)", x.choice(0), NONE);
        due(1, "key(0)", x.key(0), 0);
        due(1, "id(0)", x.id(0), 0);
        due(1, "check()", x.check(), 1);
        due(1, "NONE", KeyShares.NONE, -1);
        // The first slack is 25: of 4 keys, 5 have room with one backend.
        x.backend(1, 1);
        comeMany(x, 4);
        due(1, "of(0, 3)", x.of(0, 3), 5);
        KeyShares other = new KeyShares();
        due(1, "count(0) of another object", other.count(0), 0);
        due(1, "count(3) of another object", other.count(3), 0);
    }

    private static void promise2() {
        KeyShares x = new KeyShares();
        // The first numbers of SplitMix64 from 0, as published.
        due(2, "hash(0, 0)", x.hash(0, 0), 0);
        due(2, "hash(0, 1)", x.hash(0, 1), 0xE220A8397B1DCDAFL);
        due(2, "hash(0, 2)", x.hash(0, 2), 0x6E789E6AA1B965F4L);
        due(2, "hash(0, 3)", x.hash(0, 3), 0x06C45D188009454FL);
        due(2, "hash(0, 4)", x.hash(0, 4), 0xF88BB8A8724C81ECL);
        long[] some = {0, 1, -1, 5, Long.MIN_VALUE, Long.MAX_VALUE, STRIDE, -STRIDE, 0x0123456789ABCDEFL};
        int[] nths = {0, 1, 4, -1, -4, 1000, Integer.MAX_VALUE, Integer.MIN_VALUE};
        for (long value : some) {
            for (int k : nths) {
                due(2, "hash(" + value + ", " + k + ")", x.hash(value, k), Hashes.hash(value, k));
            }
        }
    }

    private static void promise3() {
        KeyShares x = new KeyShares();
        due(3, "backend(7, 0)", x.backend(7, 0), NONE);
        due(3, "backend(7, 9)", x.backend(7, 9), NONE);
        due(3, "backend(7, -1)", x.backend(7, -1), NONE);
        due(3, "backend(7, MIN)", x.backend(7, Integer.MIN_VALUE), NONE);
        due(3, "backend(7, MAX)", x.backend(7, Integer.MAX_VALUE), NONE);
        due(3, "count(0)", x.count(0), 0);
        due(3, "backend(7, 1)", x.backend(7, 1), 0);
        due(3, "backend(7, 1) again", x.backend(7, 1), NONE);
        due(3, "backend(0, 8)", x.backend(0, 8), 1);
        due(3, "backend(0, 8) again", x.backend(0, 8), NONE);
        due(3, "of(1, 1)", x.of(1, 1), 1);
        for (int b = 2; b < 32; b++) {
            due(3, "backend(" + -b + ", 2)", x.backend(-b, 2), b);
        }
        due(3, "backend(99, 1), the 33rd", x.backend(99, 1), NONE);
        due(3, "count(0)", x.count(0), 32);
        x.state(20, 0);
        due(3, "backend(99, 1), one being down", x.backend(99, 1), NONE);
        x.remove(9);
        x.remove(4);
        due(3, "backend(-20, 1), a down one's id", x.backend(-20, 1), NONE);
        due(3, "backend(99, 1), 4 and 9 being free", x.backend(99, 1), 4);
        due(3, "backend(-4, 1), a removed one's id", x.backend(-4, 1), 9);
        due(3, "backend(100, 1)", x.backend(100, 1), NONE);
    }

    private static void promise4() {
        KeyShares x = new KeyShares();
        for (int b : WRONG_NUMBERS) {
            due(4, "remove(" + b + ")", x.remove(b), NONE);
        }
        x.slack(0);
        x.backend(1, 1);
        x.backend(2, 1);
        comeMany(x, 10);
        due(4, "of(0, 2)", x.of(0, 2), 5);
        due(4, "remove(0)", x.remove(0), 5);
        due(4, "remove(0) again", x.remove(0), NONE);
        due(4, "of(0, 0)", x.of(0, 0), NONE);
        due(4, "of(1, 2)", x.of(1, 2), 10);
        due(4, "count(0)", x.count(0), 1);
        due(4, "remove(1), the last one", x.remove(1), 0);
        due(4, "count(3)", x.count(3), 0);
        due(4, "key(0)", x.key(0), 0);
        x.backend(3, 1);
        due(4, "count(3), with a new backend", x.count(3), 0);
        due(4, "of(0, 2), of a new backend", x.of(0, 2), 0);
        x.state(0, 0);
        due(4, "remove(0), being down", x.remove(0), 0);
    }

    private static void promise5() {
        KeyShares x = new KeyShares();
        for (int b : WRONG_NUMBERS) {
            due(5, "state(" + b + ", 0)", x.state(b, 0), NONE);
            due(5, "state(" + b + ", 1)", x.state(b, 1), NONE);
        }
        x.slack(0);
        x.backend(1, 1);
        x.backend(2, 1);
        comeMany(x, 10);
        due(5, "state(0, 1), being up", x.state(0, 1), NONE);
        due(5, "state(0, 2)", x.state(0, 2), NONE);
        due(5, "state(0, -1)", x.state(0, -1), NONE);
        due(5, "of(0, 1)", x.of(0, 1), 1);
        due(5, "of(0, 2)", x.of(0, 2), 5);
        due(5, "state(0, 0)", x.state(0, 0), 5);
        due(5, "state(0, 0), being down", x.state(0, 0), NONE);
        due(5, "state(0, 2), being down", x.state(0, 2), NONE);
        due(5, "of(0, 1)", x.of(0, 1), 0);
        due(5, "of(1, 2)", x.of(1, 2), 10);
        due(5, "state(0, 1): keys stay", x.state(0, 1), 0);
        due(5, "of(0, 2)", x.of(0, 2), 0);
        due(5, "of(1, 2)", x.of(1, 2), 10);
        x.state(0, 0);
        due(5, "state(1, 0), none being up", x.state(1, 0), 0);
        due(5, "count(3)", x.count(3), 0);
        due(5, "state(1, 1)", x.state(1, 1), 0);
        due(5, "count(3), keys do not come back", x.count(3), 0);
    }

    private static void promise6() {
        KeyShares x = new KeyShares();
        for (int b : WRONG_NUMBERS) {
            due(6, "weigh(" + b + ", 1)", x.weigh(b, 1), 0);
        }
        x.backend(1, 3);
        x.backend(2, 3);
        comeMany(x, 20);
        int load = x.of(0, 2);
        for (int weight : new int[] {0, 9, -1, Integer.MIN_VALUE, Integer.MAX_VALUE}) {
            due(6, "weigh(0, " + weight + ")", x.weigh(0, weight), 0);
        }
        due(6, "of(0, 0)", x.of(0, 0), 3);
        due(6, "weigh(0, 3), as it is", x.weigh(0, 3), 1);
        due(6, "weigh(0, 1)", x.weigh(0, 1), 1);
        due(6, "of(0, 0)", x.of(0, 0), 1);
        due(6, "count(2)", x.count(2), 4);
        due(6, "of(0, 2): keys stay", x.of(0, 2), load);
        due(6, "weigh(0, 8)", x.weigh(0, 8), 1);
        due(6, "of(0, 0)", x.of(0, 0), 8);
        x.state(0, 0);
        due(6, "weigh(0, 2), being down", x.weigh(0, 2), 1);
        due(6, "of(0, 0)", x.of(0, 0), 2);
        due(6, "count(2)", x.count(2), 3);
    }

    private static void promise7() {
        KeyShares x = new KeyShares();
        int told = 101;
        for (int p = -2; p <= 1009; p++) {
            boolean fine = p >= 2 && p <= 997 && BigInteger.valueOf(p).isProbablePrime(40);
            // An object is good for 512 calls alone.
            x = p % 100 == 0 ? new KeyShares() : x;
            told = p % 100 == 0 ? 101 : told;
            due(7, "size(" + p + ")", x.size(p), fine ? 1 : 0);
            told = fine ? p : told;
            due(7, "count(4) after size(" + p + ")", x.count(4), told);
        }
        due(7, "size(MIN)", x.size(Integer.MIN_VALUE), 0);
        due(7, "size(MAX)", x.size(Integer.MAX_VALUE), 0);
        due(7, "size(1009)", x.size(1009), 0);

        KeyShares y = new KeyShares();
        y.size(7);
        y.backend(1, 1);
        y.fill();
        y.size(11);
        due(7, "count(5) before the fill()", y.count(5), 7);
        due(7, "slot(7) before the fill()", y.slot(7), NONE);
        y.fill();
        due(7, "count(5) after the fill()", y.count(5), 11);
        due(7, "slot(10) after the fill()", y.slot(10), 0);
    }

    private static void promise8() {
        KeyShares x = new KeyShares();
        x.backend(1, 1);
        comeMany(x, 10);
        for (int percent : new int[] {-1, 301, Integer.MIN_VALUE, Integer.MAX_VALUE}) {
            due(8, "slack(" + percent + ")", x.slack(percent), 0);
            due(8, "of(0, 3) after slack(" + percent + ")", x.of(0, 3), 13);
        }
        int[][] rooms = {{0, 10}, {1, 11}, {10, 11}, {11, 12}, {299, 40}, {300, 40}};
        for (int[] room : rooms) {
            due(8, "slack(" + room[0] + ")", x.slack(room[0]), 1);
            due(8, "of(0, 3) after slack(" + room[0] + ")", x.of(0, 3), room[1]);
        }
    }

    private static void promise9() {
        KeyShares x = new KeyShares();
        due(9, "fill() of none, from the empty table", x.fill(), 101);
        due(9, "fill() of none again", x.fill(), 0);
        x.backend(1, 1);
        due(9, "fill() of one", x.fill(), 101);
        due(9, "fill() again", x.fill(), 0);
        x.state(0, 0);
        due(9, "fill() of a down one", x.fill(), 101);
        x.size(2);
        x.state(0, 1);
        due(9, "fill(), another size", x.fill(), 2);
        x.backend(2, 1);
        due(9, "fill(), 2 up for 2 slots", x.fill(), NONE);
        due(9, "slot(1): nothing is done", x.slot(1), 0);
        x.size(3);
        due(9, "fill(), 2 up for 3 slots", x.fill(), 3);
        x.backend(3, 1);
        due(9, "fill(), 3 up for 3 slots", x.fill(), NONE);
        due(9, "count(5): nothing is done", x.count(5), 3);
        x.state(2, 0);
        due(9, "fill(), 2 up and one down", x.fill(), 0);
        x.size(5);
        x.size(3);
        due(9, "fill(), the size having been told back", x.fill(), 0);

        KeyShares full = new KeyShares();
        for (int b = 0; b < 32; b++) {
            full.backend(1000 - b, 1 + b % 8);
        }
        full.size(31);
        due(9, "fill(), 32 up for 31 slots", full.fill(), NONE);
        due(9, "count(5): nothing is done", full.count(5), 0);
        full.state(0, 0);
        due(9, "fill(), 31 up for 31 slots", full.fill(), NONE);
        full.state(1, 0);
        due(9, "fill(), 30 up for 31 slots", full.fill(), 31);
        full.state(0, 1);
        full.state(1, 1);
        full.size(997);
        due(9, "fill(), 32 up for 997 slots", full.fill(), 997);
        due(9, "fill() again", full.fill(), 0);
        // The largest table by the most backends: 6 rounds of 144 slots, and the least ids part of one more.
        int taken = 0;
        for (int b = 0; b < 32; b++) {
            int fewest = 6 * (1 + b % 8);
            DUE.holds("promise 9: rounds of " + b, full.of(b, 4) >= fewest && full.of(b, 4) <= fewest + 1 + b % 8);
            taken += full.of(b, 4);
        }
        due(9, "all slots", taken, 997);
    }

    /** Every slot of one table: who takes first, how often, and where each goes on. */
    private static void promise9Orders() {
        int p = 11;
        long[] ids = {-1, 1, 0};
        int[] weights = {1, 2, 1};
        int[] numbersByIds = {2, 1, 0};
        KeyShares x = new KeyShares();
        x.size(p);
        for (int b = 0; b < ids.length; b++) {
            x.backend(ids[b], weights[b]);
        }
        due(9, "fill()", x.fill(), p);
        int[] want = new int[p];
        Arrays.fill(want, NONE);
        int[] nth = new int[ids.length];
        int taken = 0;
        while (taken < p) {
            for (int b : numbersByIds) {
                for (int turn = 0; turn < weights[b] && taken < p; turn++) {
                    while (want[Hashes.orderOf(ids[b], p, nth[b])] != NONE) {
                        nth[b]++;
                    }
                    want[Hashes.orderOf(ids[b], p, nth[b])] = b;
                    taken++;
                }
            }
        }
        for (int k = 0; k < p; k++) {
            due(9, "slot(" + k + ") of 11", x.slot(k), want[k]);
        }
        // 11 slots in rounds of 4: 0 takes one a round, 1 takes two, -1 (the greatest id) is last.
        due(9, "slots of id 0", x.of(2, 4), 3);
        due(9, "slots of id 1", x.of(1, 4), 6);
        due(9, "slots of id -1", x.of(0, 4), 2);
    }

    private static void promise10() {
        KeyShares x = new KeyShares();
        due(10, "slot(0), never filled", x.slot(0), NONE);
        x.size(5);
        x.fill();
        due(10, "slot(0), none up", x.slot(0), NONE);
        x.backend(1, 1);
        due(10, "slot(0), not filled anew", x.slot(0), NONE);
        x.fill();
        for (int k = 0; k < 5; k++) {
            due(10, "slot(" + k + ")", x.slot(k), 0);
        }
        for (int k : new int[] {-1, 5, 997, Integer.MIN_VALUE, Integer.MAX_VALUE}) {
            due(10, "slot(" + k + ")", x.slot(k), NONE);
        }
        x.state(0, 0);
        due(10, "slot(0), down by now", x.slot(0), 0);
        x.remove(0);
        due(10, "slot(0), removed by now", x.slot(0), 0);
        x.size(7);
        due(10, "slot(0), another size told", x.slot(0), 0);
        due(10, "slot(5), another size told", x.slot(5), NONE);
        x.fill();
        due(10, "slot(0), none up any more", x.slot(0), NONE);
    }

    private static void promise11() {
        KeyShares x = new KeyShares();
        long[] some = {0, 1, -1, 7, Long.MIN_VALUE, Long.MAX_VALUE, 123456789L};
        due(11, "lookup(1), never filled", x.lookup(1), NONE);
        x.size(13);
        x.fill();
        due(11, "lookup(1), none up", x.lookup(1), NONE);
        for (int b = 0; b < 6; b++) {
            x.backend(b - 3, 1 + b % 3);
        }
        due(11, "fill()", x.fill(), 13);
        x.size(997);
        x.state(2, 0);
        x.remove(3);
        for (long key : some) {
            int k = Hashes.slot(key, 13);
            due(11, "lookup(" + key + ")", x.lookup(key), x.slot(k));
        }
        // Hash 3 of 0, as published for SplitMix64.
        BigInteger third = new BigInteger("06C45D188009454F", 16);
        due(11, "lookup(0)", x.lookup(0), x.slot(third.mod(BigInteger.valueOf(13)).intValue()));
    }

    private static void promise12() {
        due(12, "choice(1), no backends", new KeyShares().choice(1), NONE);
        for (int from = -40; from < 40; from += 10) {
            KeyShares x = new KeyShares();
            for (int b = 0; b < 8; b++) {
                x.backend(b * 1000L - 3500, 1 + b % 4);
            }
            x.state(5, 0);
            for (int key = from; key < from + 10; key++) {
                due(12, "choice(" + key + ")", x.choice(key), greatestOf(x, key, 8));
            }
            due(12, "count(3): no key has come", x.count(3), 0);
            for (int b = 0; b < 8; b++) {
                x.state(b, 0);
            }
            due(12, "choice(1), none up", x.choice(1), NONE);
        }

        // Its only score is 0 for this key, the least there is; it is the choice all the same.
        KeyShares low = new KeyShares();
        low.backend(6, 1);
        long key = low.hash(6, 4) ^ -STRIDE;
        due(12, "best of 0", low.best(key, 0), 0);
        due(12, "choice, the best being 0", low.choice(key), 0);
    }

    private static void promise12Ties() {
        for (int seed = 1; seed <= 20; seed++) {
            long[] ids = Hashes.idsWithEqualBests(seed, 12345);
            int least = Long.compareUnsigned(ids[0], ids[1]) < 0 ? 0 : 1;
            KeyShares x = new KeyShares();
            x.backend(ids[0], 1);
            x.backend(ids[1], 2);
            due(12, "bests are equal", x.best(12345, 0), x.best(12345, 1));
            due(12, "choice of equal bests, seed " + seed, x.choice(12345), least);
            KeyShares y = new KeyShares();
            y.backend(ids[1], 2);
            y.backend(ids[0], 1);
            due(12, "choice the other way round, seed " + seed, y.choice(12345), 1 - least);
        }
    }

    private static void promise13() {
        KeyShares x = new KeyShares();
        for (int b : WRONG_NUMBERS) {
            due(13, "best(1, " + b + ")", x.best(1, b), 0);
        }
        long[] some = {0, 1, -1, 5, Long.MIN_VALUE, Long.MAX_VALUE};
        for (int weight = 1; weight <= 8; weight++) {
            x.backend(-weight, weight);
            for (long key : some) {
                due(13, "best(" + key + ", " + (weight - 1) + ")", x.best(key, weight - 1),
                    Hashes.best(-weight, weight, key));
            }
        }
        long up = x.best(77, 3);
        x.state(3, 0);
        due(13, "best(77, 3), being down", x.best(77, 3), up);
        x.remove(3);
        due(13, "best(77, 3), being removed", x.best(77, 3), 0);
    }

    private static void promise14() {
        KeyShares x = new KeyShares();
        due(14, "come(1), no backends", x.come(1), NONE);
        due(14, "count(3)", x.count(3), 0);
        x.backend(1, 1);
        x.state(0, 0);
        due(14, "come(1), none up", x.come(1), NONE);
        x.state(0, 1);
        for (int i = 0; i < 300; i++) {
            due(14, "come(" + i + ")", x.come(i), 0);
        }
        due(14, "come(300), 300 others", x.come(300), NONE);
        due(14, "come(0), it is there", x.come(0), 0);
        due(14, "come(299), it is there", x.come(299), 0);
        due(14, "count(3)", x.count(3), 300);
        x.go(150);
        due(14, "come(-300), 299 others", x.come(-300), 0);
        due(14, "come(150), 300 others", x.come(150), NONE);

        // Keys move with 300 there too: all of them find a place again.
        x.backend(2, 1);
        due(14, "state(0, 0) with 300 keys", x.state(0, 0), 300);
        due(14, "of(1, 2)", x.of(1, 2), 300);
        due(14, "come(150), 300 others", x.come(150), NONE);
    }

    /** A key gets the greatest best of those with room, which the answers of best() and of() tell. */
    private static void promise14Rooms() {
        KeyShares x = new KeyShares();
        int[] weights = {1, 3, 2};
        int[] loads = new int[weights.length];
        x.slack(10);
        for (int b = 0; b < weights.length; b++) {
            x.backend(500 + b, weights[b]);
        }
        for (int n = 1; n <= 60; n++) {
            long key = n * 31L;
            int want = NONE;
            for (int b = 0; b < weights.length; b++) {
                boolean open = loads[b] < (weights[b] * n * 110 + 599) / 600;
                if (open && (want == NONE || Long.compareUnsigned(x.best(key, b), x.best(key, want)) > 0)) {
                    want = b;
                }
            }
            due(14, "come(" + key + ")", x.come(key), want);
            loads[want]++;
        }
        for (int b = 0; b < weights.length; b++) {
            due(14, "of(" + b + ", 2)", x.of(b, 2), loads[b]);
        }
    }

    private static void promise14Ties() {
        for (int seed = 1; seed <= 20; seed++) {
            long[] ids = Hashes.idsWithEqualBests(seed, -9);
            int least = Long.compareUnsigned(ids[0], ids[1]) < 0 ? 0 : 1;
            KeyShares x = new KeyShares();
            x.backend(ids[0], 1);
            x.backend(ids[1], 2);
            due(14, "come of equal bests, seed " + seed, x.come(-9), least);
        }
    }

    private static void promise15() {
        KeyShares x = new KeyShares();
        due(15, "go(0), no backends", x.go(0), NONE);
        x.backend(1, 1);
        x.backend(2, 1);
        due(15, "go(0), no keys", x.go(0), NONE);
        for (int i = 0; i < 20; i++) {
            x.come(i);
        }
        int[] loads = {x.of(0, 2), x.of(1, 2)};
        for (int i = 0; i < 20; i += 3) {
            int had = x.come(i);
            due(15, "go(" + i + ")", x.go(i), had);
            due(15, "go(" + i + ") again", x.go(i), NONE);
            loads[had]--;
            due(15, "its keys after go(" + i + ")", x.of(had, 2), loads[had]);
        }
        due(15, "count(3)", x.count(3), 13);
        due(15, "key(0)", x.key(0), 1);
        due(15, "key(12)", x.key(12), 19);
        due(15, "key(13)", x.key(13), 0);
        due(15, "go(99), never come", x.go(99), NONE);
        due(15, "check()", x.check(), 1);
    }

    private static void promise16() {
        KeyShares x = new KeyShares();
        for (int b : WRONG_NUMBERS) {
            for (int what = -1; what <= 7; what++) {
                due(16, "of(" + b + ", " + what + ")", x.of(b, what), NONE);
            }
        }
        x.slack(0);
        x.backend(0, 2);
        x.backend(-1, 1);
        for (int what : new int[] {-1, 7, Integer.MIN_VALUE, Integer.MAX_VALUE}) {
            due(16, "of(0, " + what + ")", x.of(0, what), NONE);
        }
        due(16, "of(0, 0)", x.of(0, 0), 2);
        due(16, "of(0, 1)", x.of(0, 1), 1);
        due(16, "of(0, 2)", x.of(0, 2), 0);
        due(16, "of(0, 3), no keys", x.of(0, 3), 0);
        due(16, "of(0, 4), never filled", x.of(0, 4), 0);
        comeMany(x, 7);
        due(16, "of(0, 3): 14 / 3", x.of(0, 3), 5);
        due(16, "of(1, 3): 7 / 3", x.of(1, 3), 3);
        due(16, "all keys", x.of(0, 2) + x.of(1, 2), 7);
        x.slack(300);
        due(16, "of(0, 3): 56 / 3", x.of(0, 3), 19);
        for (int p : new int[] {2, 3, 101, 997}) {
            x.size(p);
            BigInteger offset = new BigInteger("E220A8397B1DCDAF", 16).mod(BigInteger.valueOf(p));
            BigInteger step = new BigInteger("6E789E6AA1B965F4", 16).mod(BigInteger.valueOf(p - 1));
            due(16, "of(0, 5) by " + p, x.of(0, 5), offset.intValue());
            due(16, "of(0, 6) by " + p, x.of(0, 6), step.intValue() + 1);
            due(16, "of(1, 5) by " + p, x.of(1, 5), Hashes.orderOf(-1, p, 0));
        }
        x.size(101);
        x.fill();
        due(16, "of(0, 4)", x.of(0, 4), 68);
        due(16, "of(1, 4)", x.of(1, 4), 33);
        x.state(0, 0);
        due(16, "of(0, 0), being down", x.of(0, 0), 2);
        due(16, "of(0, 1), being down", x.of(0, 1), 0);
        due(16, "of(0, 2), being down", x.of(0, 2), 0);
        due(16, "of(0, 3), being down", x.of(0, 3), 0);
        due(16, "of(0, 4), being down", x.of(0, 4), 68);
        due(16, "of(1, 2)", x.of(1, 2), 7);
        due(16, "of(1, 3): all weights are its own", x.of(1, 3), 28);
        KeyShares y = new KeyShares();
        y.slack(1);
        y.backend(5, 1);
        y.come(1);
        due(16, "of(0, 3): 101 / 100", y.of(0, 3), 2);
    }

    private static void promise17() {
        KeyShares x = new KeyShares();
        for (int b : WRONG_NUMBERS) {
            due(17, "id(" + b + ")", x.id(b), 0);
        }
        long[] ids = {5, 0, -1, Long.MIN_VALUE, Long.MAX_VALUE};
        for (long id : ids) {
            x.backend(id, 1);
        }
        for (int b = 0; b < ids.length; b++) {
            due(17, "id(" + b + ")", x.id(b), ids[b]);
        }
        due(17, "id(5)", x.id(5), 0);
        x.state(2, 0);
        due(17, "id(2), being down", x.id(2), -1);
        x.remove(2);
        due(17, "id(2), being removed", x.id(2), 0);
        x.backend(88, 1);
        due(17, "id(2), a new one", x.id(2), 88);
    }

    private static void promise18() {
        KeyShares x = new KeyShares();
        for (int what : new int[] {-1, 7, Integer.MIN_VALUE, Integer.MAX_VALUE}) {
            due(18, "count(" + what + ")", x.count(what), NONE);
        }
        x.backend(1, 3);
        x.backend(2, 4);
        x.backend(3, 8);
        x.state(1, 0);
        comeMany(x, 9);
        x.size(7);
        x.fill();
        x.size(11);
        int[] want = {3, 2, 11, 9, 11, 7, 0};
        for (int what = 0; what < want.length; what++) {
            due(18, "count(" + what + ")", x.count(what), want[what]);
        }
        x.remove(2);
        due(18, "count(0)", x.count(0), 2);
        due(18, "count(1)", x.count(1), 1);
        due(18, "count(2)", x.count(2), 3);
        x.weigh(0, 5);
        x.weigh(1, 6);
        due(18, "count(2)", x.count(2), 5);
        x.go(x.key(0));
        due(18, "count(3)", x.count(3), 8);
    }

    private static void promise18Moves() {
        KeyShares x = new KeyShares();
        x.size(31);
        x.fill();
        x.backend(1, 1);
        x.backend(2, 1);
        x.fill();
        due(18, "count(6), from none", x.count(6), 0);
        int[] before = slotsOf(x);
        x.backend(3, 2);
        int moved = x.fill();
        due(18, "fill()", moved, changes(before, slotsOf(x), NONE));
        due(18, "count(6), both still being up", x.count(6), moved);
        before = slotsOf(x);
        x.state(0, 0);
        moved = x.fill();
        due(18, "fill()", moved, changes(before, slotsOf(x), NONE));
        due(18, "count(6), without those of 0", x.count(6), changes(before, slotsOf(x), 0));
        x.state(1, 0);
        due(18, "count(6) stays till the next fill()", x.count(6), changes(before, slotsOf(x), 0));
        x.size(2);
        x.state(1, 1);
        x.fill();
        due(18, "count(6) stays when nothing is done", x.count(6), changes(before, slotsOf(x), 0));

        // A number counts as up when a new backend has it that is up.
        x.size(31);
        before = slotsOf(x);
        x.remove(2);
        x.backend(44, 7);
        moved = x.fill();
        due(18, "fill()", moved, changes(before, slotsOf(x), NONE));
        due(18, "count(6), 2 being another one", x.count(6), moved);
        x.size(37);
        x.fill();
        due(18, "count(6), another size", x.count(6), 0);
        for (int b = 0; b < 3; b++) {
            x.remove(b);
        }
        due(18, "fill() of none", x.fill(), 37);
        due(18, "count(6), none being up", x.count(6), 0);
    }

    private static void promise19() {
        KeyShares x = new KeyShares();
        for (int i : new int[] {-1, 0, 1, 299, 300, Integer.MIN_VALUE, Integer.MAX_VALUE}) {
            due(19, "key(" + i + ")", x.key(i), 0);
        }
        x.slack(0);
        x.backend(1, 1);
        x.backend(2, 1);
        long[] keys = {9, -4, Long.MIN_VALUE, 0, 7, Long.MAX_VALUE};
        int[] owners = new int[keys.length];
        for (int i = 0; i < keys.length; i++) {
            owners[i] = x.come(keys[i]);
        }
        x.come(9);
        for (int i = 0; i < keys.length; i++) {
            due(19, "key(" + i + ")", x.key(i), keys[i]);
        }
        due(19, "key(6)", x.key(6), 0);
        due(19, "key(-1)", x.key(-1), 0);
        x.state(0, 0);
        int at = 0;
        for (int owner : new int[] {1, 0}) {
            for (int i = 0; i < keys.length; i++) {
                if (owners[i] == owner) {
                    due(19, "key(" + at + "), those of 0 having come anew", x.key(at), keys[i]);
                    at++;
                }
            }
        }
        due(19, "key(300)", x.key(300), 0);
    }

    private static void promise20() {
        KeyShares x = new KeyShares();
        due(20, "check()", x.check(), 1);
        x.fill();
        due(20, "check(), filled with none", x.check(), 1);
        for (int b = 0; b < 10; b++) {
            x.backend(b, 1 + b % 8);
            comeMany(x, 3 * b);
            due(20, "check(), with one more backend", x.check(), 1);
        }
        x.fill();
        due(20, "check(), filled", x.check(), 1);
        for (int b = 0; b < 10; b += 2) {
            x.state(b, 0);
            due(20, "check(), one being down", x.check(), 1);
            x.go(x.key(b));
            due(20, "check(), a key having gone", x.check(), 1);
        }
        for (int b = 0; b < 10; b++) {
            x.remove(b);
            due(20, "check(), one being removed", x.check(), 1);
        }
        x.fill();
        due(20, "check(), all removed", x.check(), 1);
    }

    private static void comeMany(KeyShares x, int keys) {
        for (int i = 1; i <= keys; i++) {
            x.come(i * 7L);
        }
    }

    private static int greatestOf(KeyShares x, long key, int backends) {
        int chosen = NONE;
        for (int b = 0; b < backends; b++) {
            if (x.of(b, 1) == 1 && (chosen == NONE || Long.compareUnsigned(x.best(key, b), x.best(key, chosen)) > 0)) {
                chosen = b;
            }
        }
        return chosen;
    }

    private static int[] slotsOf(KeyShares x) {
        int[] slots = new int[x.count(5)];
        for (int k = 0; k < slots.length; k++) {
            slots[k] = x.slot(k);
        }
        return slots;
    }

    private static int changes(int[] before, int[] after, int without) {
        int sum = 0;
        for (int k = 0; k < before.length; k++) {
            sum += before[k] != after[k] && (without == NONE || before[k] != without) ? 1 : 0;
        }
        return sum;
    }
}
