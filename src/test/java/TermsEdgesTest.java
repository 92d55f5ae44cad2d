import java.io.IOException;
import java.util.Arrays;

/** The boundaries that the document's terms name, a case for each. */
public final class TermsEdgesTest {
    private static final int NONE = Edges.NONE;

    private TermsEdgesTest() {
    }

    public static void main(String[] args) throws IOException {
        Edges.runAll(TermsEdgesTest.class, 0, 0);
    }

    @Says("An object is used for at most 512 calls after it has been made")
    static void aLastCallIsAnsweredAsAnyOther(Due due) {
        KeyShares x = new KeyShares();
        x.backend(1, 1);
        for (int call = 2; call <= 508; call++) {
            x.weigh(0, 1 + call % 8);
        }
        due.is("come(5), the 509th call", x.come(5), 0);
        due.is("fill(), the 510th call", x.fill(), 101);
        due.is("remove(0), the 511th call", x.remove(0), 0);
        due.is("backend(1, 8), the 512th call", x.backend(1, 8), 0);
    }

    @Says("The constants: `NONE = -1`")
    static void noneIsMinusOne(Due due) {
        due.is("NONE", KeyShares.NONE, -1);
    }

    @Says("Longs run over in sums and products")
    static void sumsRunOver(Due due) {
        KeyShares x = new KeyShares();
        due.is("hash(-stride, 1), the sum being 0", x.hash(-Hashes.STRIDE, 1), 0);
        due.is("hash(1 - stride, 1)", x.hash(1 - Hashes.STRIDE, 1), x.hash(1, 0));
        due.is("hash(MAX, 1)", x.hash(Long.MAX_VALUE, 1), Hashes.hash(Long.MAX_VALUE, 1));
        due.is("hash(-1, 1)", x.hash(-1, 1), Hashes.hash(-1, 1));
    }

    @Says("Longs run over in sums and products")
    static void productsRunOver(Due due) {
        KeyShares x = new KeyShares();
        for (int k : new int[] {2, 3, 8, Integer.MAX_VALUE, Integer.MIN_VALUE}) {
            due.is("hash(0, " + k + ")", x.hash(0, k), Hashes.hash(0, k));
        }
    }

    @Says(">>> moves bits down, 0 coming in")
    static void noSignComesInFromAbove(Due due) {
        KeyShares x = new KeyShares();
        for (long value : new long[] {-1, Long.MIN_VALUE, Long.MIN_VALUE + 1, 1L << 62}) {
            due.is("hash(" + value + ", 0)", x.hash(value, 0), Hashes.hash(value, 0));
        }
    }

    @Says("here numbers are compared, and remainders taken, without sign")
    static void idsAreComparedWithoutSign(Due due) {
        long[][] lessAndMore = {{0, -1}, {Long.MAX_VALUE, Long.MIN_VALUE}, {1, Long.MIN_VALUE}, {-2, -1}};
        for (long[] pair : lessAndMore) {
            KeyShares x = new KeyShares();
            x.size(3);
            Edges.backends(x, pair[1], pair[0]);
            x.fill();
            due.is("slots of the lesser id " + pair[0], x.of(1, 4), 2);
            due.is("slots of the greater id " + pair[1], x.of(0, 4), 1);
        }
    }

    @Says("here numbers are compared, and remainders taken, without sign")
    static void scoresAreComparedWithoutSign(Due due) {
        long key = Hashes.one(k -> Hashes.best(1, 1, k) >= 0 && Hashes.best(2, 1, k) < 0);
        KeyShares x = new KeyShares();
        Edges.backends(x, 1, 2);
        due.is("choice, the greater one having its top bit set", x.choice(key), 1);
        due.is("come, the greater one having its top bit set", x.come(key), 1);
    }

    @Says("here numbers are compared, and remainders taken, without sign")
    static void oneBackendsScoresAreComparedWithoutSign(Due due) {
        KeyShares x = new KeyShares();
        x.backend(1, 2);
        long first = Hashes.one(k -> Hashes.score(1, k, 1) < 0 && Hashes.score(1, k, 2) >= 0);
        long second = Hashes.one(k -> Hashes.score(1, k, 1) >= 0 && Hashes.score(1, k, 2) < 0);
        due.is("best, the first having its top bit set", x.best(first, 0), Hashes.score(1, first, 1));
        due.is("best, the second having its top bit set", x.best(second, 0), Hashes.score(1, second, 2));
    }

    @Says("here numbers are compared, and remainders taken, without sign")
    static void offsetsAreRestsWithoutSign(Due due) {
        long id = Hashes.one(one -> Hashes.hash(one, 1) < 0);
        KeyShares x = new KeyShares();
        x.backend(id, 1);
        due.is("offset, hash 1 having its top bit set", x.of(0, 5), Hashes.offset(id, 101));
    }

    @Says("here numbers are compared, and remainders taken, without sign")
    static void stepsAreRestsWithoutSign(Due due) {
        long id = Hashes.one(one -> Hashes.hash(one, 2) < 0);
        KeyShares x = new KeyShares();
        x.backend(id, 1);
        due.is("step, hash 2 having its top bit set", x.of(0, 6), Hashes.step(id, 101));
    }

    @Says("here numbers are compared, and remainders taken, without sign")
    static void slotsOfKeysAreRestsWithoutSign(Due due) {
        KeyShares x = new KeyShares();
        x.size(13);
        Edges.backends(x, 1, 2, 3, 4, 5);
        x.fill();
        for (long key : Hashes.some(20, 1, k -> Hashes.hash(k, 3) < 0)) {
            due.is("lookup(" + key + ")", x.lookup(key), x.slot(Hashes.slot(key, 13)));
        }
    }

    @Says("HASH k of x is x + k times 0x9E3779B97F4A7C15, mixed")
    static void hashNoughtIsMixedAlone(Due due) {
        KeyShares x = new KeyShares();
        due.is("hash(0, 0)", x.hash(0, 0), 0);
        due.is("hash(1, 0)", x.hash(1, 0), 6238072747940578789L);
    }

    @Says("BACKENDS have different IDS (any longs)")
    static void anyLongIsAnId(Due due) {
        KeyShares x = new KeyShares();
        long[] ids = {0, -1, 1, Long.MIN_VALUE, Long.MAX_VALUE, Integer.MIN_VALUE, 1L << 32};
        for (int b = 0; b < ids.length; b++) {
            due.is("backend(" + ids[b] + ", 1)", x.backend(ids[b], 1), b);
            due.is("id(" + b + ")", x.id(b), ids[b]);
        }
    }

    @Says("BACKENDS have different IDS (any longs)")
    static void idsThatDifferInTheirUpperHalfAloneAreDifferent(Due due) {
        KeyShares x = new KeyShares();
        x.backend(7, 1);
        due.is("backend(7 + 2^32, 1)", x.backend(7 + (1L << 32), 1), 1);
        due.is("backend(7 + 2^63, 1)", x.backend(7 + (1L << 63), 1), 2);
    }

    @Says("WEIGHTS 1 to 8")
    static void leastAndGreatestWeight(Due due) {
        KeyShares x = new KeyShares();
        due.is("backend(1, 1)", x.backend(1, 1), 0);
        due.is("backend(2, 8)", x.backend(2, 8), 1);
        due.is("of(0, 0)", x.of(0, 0), 1);
        due.is("of(1, 0)", x.of(1, 0), 8);
    }

    @Says("are UP (at first) or down")
    static void aNewBackendIsUp(Due due) {
        KeyShares x = new KeyShares();
        x.backend(1, 1);
        due.is("of(0, 1)", x.of(0, 1), 1);
        x.state(0, 0);
        x.remove(0);
        x.backend(1, 1);
        due.is("of(0, 1), one with its id and number having been down", x.of(0, 1), 1);
    }

    @Says("a new one has the least number that is free, 0 to 31")
    static void numbersGoFromNoughtToThirtyOne(Due due) {
        KeyShares x = new KeyShares();
        for (int b = 0; b < 32; b++) {
            due.is("backend(" + -b + ", 1)", x.backend(-b, 1), b);
        }
    }

    @Says("a new one has the least number that is free, 0 to 31")
    static void theLeastFreeNumberComesFirst(Due due) {
        KeyShares x = new KeyShares();
        Edges.fullOfBackends(x);
        for (int b : new int[] {17, 31, 0, 3}) {
            x.remove(b);
        }
        int id = 1;
        for (int b : new int[] {0, 3, 17, 31}) {
            due.is("backend(" + id + ", 1)", x.backend(id, 1), b);
            id++;
        }
    }

    @Says("a prime p (at first 101)")
    static void theFirstSize(Due due) {
        KeyShares x = new KeyShares();
        due.is("count(4)", x.count(4), 101);
        x.backend(1, 1);
        due.is("fill()", x.fill(), 101);
        due.is("slot(100)", x.slot(100), 0);
        due.is("slot(101)", x.slot(101), NONE);
    }

    @Says("the OFFSET, hash 1 of its id rest p")
    static void leastAndGreatestOffset(Due due) {
        for (int p : new int[] {2, 101, 997}) {
            for (int offset : new int[] {0, p - 1}) {
                long id = Hashes.one(one -> Hashes.offset(one, p) == offset);
                KeyShares x = new KeyShares();
                x.size(p);
                x.backend(id, 1);
                due.is("offset by " + p, x.of(0, 5), offset);
            }
        }
    }

    @Says("one more than hash 2 of its id rest p - 1")
    static void leastAndGreatestStep(Due due) {
        for (int p : new int[] {3, 101, 997}) {
            for (int step : new int[] {1, p - 1}) {
                long id = Hashes.one(one -> Hashes.step(one, p) == step);
                KeyShares x = new KeyShares();
                x.size(p);
                x.backend(id, 1);
                due.is("step by " + p, x.of(0, 6), step);
            }
        }
    }

    @Says("one more than hash 2 of its id rest p - 1")
    static void aTableOfTwoHasOneStepAlone(Due due) {
        KeyShares x = new KeyShares();
        x.size(2);
        Edges.backends(x, 0, 1, -1, Long.MIN_VALUE, 12345);
        for (int b = 0; b < 5; b++) {
            due.is("of(" + b + ", 6)", x.of(b, 6), 1);
        }
    }

    /** From the last slot on by one: the first; from the first slot on by all but one: the last. */
    @Says("again and again, round the table")
    static void ordersGoRoundTheTable(Due due) {
        int p = 7;
        int[][] offsetStepNext = {{p - 1, 1, 0}, {0, p - 1, p - 1}, {p - 2, 2, 0}, {p - 1, p - 1, p - 2}};
        for (int[] order : offsetStepNext) {
            long id = Hashes.one(one -> Hashes.offset(one, p) == order[0] && Hashes.step(one, p) == order[1]);
            // It takes one slot between those two, which is neither of them.
            long other = Hashes.some(1, id + 1, one -> !isOneOf(Hashes.offset(one, p), order[0], order[2]))[0];
            KeyShares x = new KeyShares();
            x.size(p);
            Edges.backends(x, id, other);
            x.fill();
            due.is("its first slot", x.slot(order[0]), 0);
            due.is("its second slot", x.slot(order[2]), 0);
        }
    }

    private static boolean isOneOf(int slot, int one, int other) {
        return slot == one || slot == other;
    }

    @Says("again and again, round the table")
    static void oneBackendReachesEverySlot(Due due) {
        for (int p : new int[] {2, 3, 101}) {
            KeyShares x = new KeyShares();
            x.size(p);
            x.backend(-7, 1);
            x.fill();
            for (int k = 0; k < p; k++) {
                due.is("slot(" + k + ") of " + p, x.slot(k), 0);
            }
        }
    }

    @Says("each backend that is up has an order of slots")
    static void aDownBackendTakesNoSlots(Due due) {
        KeyShares x = new KeyShares();
        x.size(5);
        Edges.backends(x, 1, 2);
        x.state(0, 0);
        x.fill();
        due.is("of(0, 4)", x.of(0, 4), 0);
        due.is("of(1, 4)", x.of(1, 4), 5);
    }

    @Says("All that are up, the least id first, take in turn")
    static void theLeastIdAndNotTheLeastNumberIsFirst(Due due) {
        long[] ids = Hashes.some(2, 1, one -> Hashes.offset(one, 5) == 2);
        KeyShares x = new KeyShares();
        x.size(5);
        Edges.backends(x, ids[1], ids[0]);
        x.fill();
        due.is("the slot that both have first", x.slot(2), 1);
        due.is("slots of the least id", x.of(1, 4), 3);
    }

    @Says("each as often as its weight tells")
    static void theGreatestWeightTakesEightInATurn(Due due) {
        KeyShares x = new KeyShares();
        x.size(11);
        x.backend(1, 8);
        x.backend(2, 1);
        x.fill();
        due.is("of(0, 4): 8, and 2 of the second round", x.of(0, 4), 10);
        due.is("of(1, 4)", x.of(1, 4), 1);
    }

    @Says("the next slot of its order that is free")
    static void aTakenSlotIsPassedOver(Due due) {
        int p = 5;
        long[] ids = Hashes.some(2, 1, one -> Hashes.offset(one, p) == 0 && Hashes.step(one, p) == 1);
        KeyShares x = new KeyShares();
        x.size(p);
        Edges.backends(x, ids);
        x.fill();
        int[] want = {0, 1, 0, 1, 0};
        for (int k = 0; k < p; k++) {
            due.is("slot(" + k + ")", x.slot(k), want[k]);
        }
    }

    @Says("as long as there is a free one")
    static void aTurnEndsWithTheLastFreeSlot(Due due) {
        KeyShares x = new KeyShares();
        x.size(3);
        x.backend(1, 2);
        x.backend(2, 8);
        due.is("fill()", x.fill(), 3);
        due.is("of(0, 4)", x.of(0, 4), 2);
        due.is("of(1, 4), cut short", x.of(1, 4), 1);
    }

    @Says("as long as there is a free one")
    static void whoComesTooLateHasNoSlot(Due due) {
        KeyShares x = new KeyShares();
        x.size(3);
        x.backend(1, 8);
        x.backend(2, 1);
        due.is("fill()", x.fill(), 3);
        due.is("of(0, 4)", x.of(0, 4), 3);
        due.is("of(1, 4), all being taken", x.of(1, 4), 0);
        due.is("check()", x.check(), 1);
    }

    @Says("round by round")
    static void theLastRoundIsCutShort(Due due) {
        KeyShares x = new KeyShares();
        x.size(11);
        Edges.backends(x, 3, 1, 2);
        x.fill();
        int[] want = {3, 4, 4};
        for (int b = 0; b < want.length; b++) {
            due.is("of(" + b + ", 4)", x.of(b, 4), want[b]);
        }
    }

    @Says("A key's slot is hash 3 of it rest p")
    static void keysOfTheFirstAndTheLastSlot(Due due) {
        int p = 13;
        KeyShares x = new KeyShares();
        x.size(p);
        Edges.backends(x, 1, 2, 3, 4, 5, 6, 7);
        x.fill();
        for (int slot : new int[] {0, p - 1}) {
            for (long key : Hashes.some(5, -40, k -> Hashes.slot(k, p) == slot)) {
                due.is("lookup(" + key + ")", x.lookup(key), x.slot(slot));
            }
        }
    }

    @Says("for each c from 1 to its weight")
    static void scoresBeginWithOneAndEndWithTheWeight(Due due) {
        for (int weight : new int[] {1, 8}) {
            KeyShares x = new KeyShares();
            x.backend(6, weight);
            for (int top = 0; top <= weight + 1; top++) {
                int greatest = top;
                long key = Hashes.one(k -> greatestOf(6, k, weight + 1) == greatest);
                due.is("best, score " + top + " being the greatest, weight " + weight, x.best(key, 0),
                    Hashes.best(6, weight, key));
            }
        }
    }

    /** Which of the scores 0 to the last is the greatest. */
    private static int greatestOf(long id, long key, int last) {
        int top = 0;
        for (int c = 1; c <= last; c++) {
            top = Long.compareUnsigned(Hashes.score(id, key, c), Hashes.score(id, key, top)) > 0 ? c : top;
        }
        return top;
    }

    @Says("A key's CHOICE is the backend that is up with the greatest best")
    static void theGreatestBestOfADownOneDoesNotCount(Due due) {
        long key = Hashes.one(k -> Hashes.prefers(k, 1, 2, 3));
        KeyShares x = new KeyShares();
        Edges.backends(x, 3, 2, 1);
        due.is("choice", x.choice(key), 2);
        x.state(2, 0);
        due.is("choice, the greatest being down", x.choice(key), 1);
        x.state(1, 0);
        due.is("choice, two being down", x.choice(key), 0);
        x.state(2, 1);
        due.is("choice, the greatest being up again", x.choice(key), 2);
    }

    @Says("of these the least id")
    static void ofEqualBestsTheLeastIdIsTheChoice(Due due) {
        for (int seed = 1; seed <= 10; seed++) {
            long[] ids = Hashes.idsWithEqualBests(seed, 77);
            int least = Long.compareUnsigned(ids[0], ids[1]) < 0 ? 0 : 1;
            KeyShares x = new KeyShares();
            x.backend(ids[0], 1);
            x.backend(ids[1], 2);
            due.is("the bests are equal", x.best(77, 0), x.best(77, 1));
            due.is("choice(77)", x.choice(77), least);
            due.is("come(77)", x.come(77), least);
        }
    }

    @Says("at most 300 keys have a backend each")
    static void threeHundredKeysAndNoMore(Due due) {
        KeyShares x = new KeyShares();
        x.backend(1, 1);
        for (int key = 1; key <= 302; key++) {
            due.is("come(" + key + ")", x.come(key), key <= 300 ? 0 : NONE);
        }
        due.is("count(3)", x.count(3), 300);
    }

    @Says("rounded up")
    static void roomsThatAreWholeAreNotRounded(Due due) {
        KeyShares x = new KeyShares();
        x.backend(1, 1);
        Edges.come(x, 1, 2, 3, 4);
        due.is("room of 4 keys, slack 25", x.of(0, 3), 5);
        x.slack(0);
        due.is("room of 4 keys, slack 0", x.of(0, 3), 4);
        x.backend(2, 3);
        due.is("room of a quarter of 4 keys", x.of(0, 3), 1);
        due.is("room of three quarters of 4 keys", x.of(1, 3), 3);
    }

    @Says("rounded up")
    static void theLeastPartOfOneIsOneMore(Due due) {
        KeyShares x = new KeyShares();
        x.backend(1, 1);
        x.slack(1);
        x.come(1);
        due.is("room of 1.01", x.of(0, 3), 2);
        x.slack(0);
        x.backend(2, 8);
        due.is("room of 1 / 9", x.of(0, 3), 1);
        due.is("room of 8 / 9", x.of(1, 3), 1);
    }

    @Says("W all weights of those that are up")
    static void weightsOfDownOnesDoNotCount(Due due) {
        KeyShares x = new KeyShares();
        x.slack(0);
        x.backend(1, 1);
        x.backend(2, 8);
        x.state(1, 0);
        Edges.come(x, 1, 2, 3);
        due.is("of(0, 3), the other one being down", x.of(0, 3), 3);
        x.state(1, 1);
        due.is("of(0, 3), the other one being up", x.of(0, 3), 1);
    }

    @Says("slack is at first 25")
    static void theFirstSlack(Due due) {
        KeyShares x = new KeyShares();
        x.backend(1, 1);
        Edges.come(x, 1, 2, 3, 4);
        due.is("room of 4 keys", x.of(0, 3), 5);
        Edges.come(x, 5);
        due.is("room of 5 keys: 6.25", x.of(0, 3), 7);
        for (long key = 6; key <= 100; key++) {
            x.come(key);
        }
        due.is("room of 100 keys", x.of(0, 3), 125);
    }

    /** Three keys that all have the same choice: with slack 0 it is full for the second and not for the third. */
    @Says("of those that are up and have less keys than room (with this one in all)")
    static void asManyKeysAsRoomIsFull(Due due) {
        long[] keys = Hashes.some(3, 1, k -> Hashes.prefers(k, 1, 2));
        KeyShares x = new KeyShares();
        x.slack(0);
        Edges.backends(x, 1, 2);
        due.is("come, rooms of 1", x.come(keys[0]), 0);
        due.is("come, rooms of 1, the choice being full", x.come(keys[1]), 1);
        due.is("come, rooms of 2", x.come(keys[2]), 0);
    }

    @Says("(with this one in all)")
    static void theFirstKeyHasRoom(Due due) {
        KeyShares x = new KeyShares();
        x.slack(0);
        x.backend(1, 1);
        due.is("of(0, 3), no keys", x.of(0, 3), 0);
        due.is("come(1)", x.come(1), 0);
        due.is("come(2), all room of one key being had", x.come(2), 0);
    }

    /** A backend may have more keys than room since others came: it gets none, and keeps those that it has. */
    @Says("have less keys than room")
    static void moreKeysThanRoomIsFullToo(Due due) {
        long[] keys = Hashes.some(6, 1, k -> Hashes.prefers(k, 1, 2));
        KeyShares x = new KeyShares();
        x.slack(0);
        x.backend(1, 1);
        Edges.come(x, keys[0], keys[1], keys[2], keys[3]);
        x.backend(2, 1);
        due.is("of(0, 2)", x.of(0, 2), 4);
        due.is("of(0, 3)", x.of(0, 3), 2);
        due.is("come, 4 keys of 3 rooms", x.come(keys[4]), 1);
        due.is("come, 4 keys of 3 rooms", x.come(keys[5]), 1);
        due.is("of(0, 2)", x.of(0, 2), 4);
    }

    /** 9 keys, 3 each, that prefer 0, then 1: all leave before one comes, so rooms are of 7, 8 and 9 keys, not of 9. */
    @Says("its keys are taken away; then they come once more")
    static void allLeaveBeforeTheFirstComes(Due due) {
        long[] keys = threeEach();
        KeyShares x = new KeyShares();
        x.slack(0);
        Edges.backends(x, 1, 2, 3);
        Edges.come(x, keys);
        due.is("state(0, 0)", x.state(0, 0), 3);
        due.is("of 7 keys, rooms of 4", x.come(keys[0]), 1);
        due.is("of 8 keys, rooms of 4", x.come(keys[3]), 2);
        due.is("of 9 keys, rooms of 5", x.come(keys[6]), 1);
    }

    @Says("in the order in which they came, as new ones")
    static void theyComeInTheirOrder(Due due) {
        long[] keys = Arrays.copyOf(threeEach(), 6);
        KeyShares x = new KeyShares();
        x.slack(0);
        Edges.backends(x, 1, 2, 3);
        Edges.come(x, keys);
        due.is("remove(0)", x.remove(0), 2);
        due.is("the one that came first gets its choice", x.come(keys[0]), 1);
        due.is("the other one what is left", x.come(keys[3]), 2);
    }

    @Says("in the order in which they came, as new ones")
    static void theyComeBehindAllOthers(Due due) {
        long[] keys = threeEach();
        KeyShares x = new KeyShares();
        x.slack(0);
        Edges.backends(x, 1, 2, 3);
        Edges.come(x, keys);
        x.state(0, 0);
        int at = 0;
        for (int i : new int[] {1, 2, 4, 5, 7, 8, 0, 3, 6}) {
            due.is("key(" + at + ")", x.key(at), keys[i]);
            at++;
        }
    }

    /** For ids 1, 2 and 3: keys with these choices in turn, of which those of 1 have 2 as their second. */
    private static long[] threeEach() {
        long[] first = Hashes.some(3, 1, k -> Hashes.prefers(k, 1, 2, 3));
        long[] second = Hashes.some(3, 1, k -> Hashes.prefers(k, 2, 1) && Hashes.prefers(k, 2, 3));
        long[] third = Hashes.some(3, 1, k -> Hashes.prefers(k, 3, 1) && Hashes.prefers(k, 3, 2));
        long[] keys = new long[9];
        for (int i = 0; i < 3; i++) {
            keys[3 * i] = first[i];
            keys[3 * i + 1] = second[i];
            keys[3 * i + 2] = third[i];
        }
        return keys;
    }

    @Says("if none is up they have none any more")
    static void keysOfTheLastOneUpAreGone(Due due) {
        KeyShares x = new KeyShares();
        Edges.backends(x, 1, 2);
        x.state(1, 0);
        Edges.come(x, 1, 2, 3);
        due.is("state(0, 0)", x.state(0, 0), 0);
        due.is("count(3)", x.count(3), 0);
        due.is("key(0)", x.key(0), 0);
        due.is("go(1)", x.go(1), NONE);
        x.state(0, 1);
        x.state(1, 1);
        due.is("count(3), both being up again", x.count(3), 0);
    }

    @Says("Keys do not move else")
    static void keysStayWhateverElseIsDone(Due due) {
        KeyShares x = new KeyShares();
        x.slack(300);
        x.backend(1, 8);
        x.backend(2, 1);
        int[] owners = new int[40];
        for (int key = 0; key < owners.length; key++) {
            owners[key] = x.come(key);
        }
        x.slack(0);
        x.weigh(0, 1);
        x.weigh(1, 8);
        due.is("backend(3, 8)", x.backend(3, 8), 2);
        x.state(2, 0);
        due.is("state(2, 1)", x.state(2, 1), 0);
        x.size(7);
        x.fill();
        x.go(39);
        for (int key = 0; key < 39; key++) {
            due.is("come(" + key + ")", x.come(key), owners[key]);
            due.is("key(" + key + ")", x.key(key), key);
        }
    }
}
