import java.io.IOException;

/** The boundaries that promises 1 to 6 name, a case for each. */
public final class BackendEdgesTest {
    private static final int NONE = Edges.NONE;
    private static final int MIN = Integer.MIN_VALUE;
    private static final int MAX = Integer.MAX_VALUE;

    private BackendEdgesTest() {
    }

    public static void main(String[] args) throws IOException {
        Edges.runAll(BackendEdgesTest.class, 1, 6);
    }

    @Says(promise = 1, value = "No backends")
    static void aNewObjectHasNoBackends(Due due) {
        KeyShares x = new KeyShares();
        due.is("count(0)", x.count(0), 0);
        due.is("count(1)", x.count(1), 0);
        due.is("count(2)", x.count(2), 0);
        for (int b = 0; b < 32; b++) {
            due.is("of(" + b + ", 0)", x.of(b, 0), NONE);
        }
        due.is("choice(0)", x.choice(0), NONE);
    }

    @Says(promise = 1, value = "an empty table")
    static void aNewObjectHasAnEmptyTable(Due due) {
        KeyShares x = new KeyShares();
        due.is("count(5)", x.count(5), 0);
        due.is("count(6)", x.count(6), 0);
        due.is("slot(0)", x.slot(0), NONE);
        due.is("slot(100)", x.slot(100), NONE);
        due.is("lookup(0)", x.lookup(0), NONE);
    }

    @Says(promise = 1, value = "A new object")
    static void aNewObjectHasNoKeys(Due due) {
        KeyShares x = new KeyShares();
        due.is("count(3)", x.count(3), 0);
        due.is("key(0)", x.key(0), 0);
        due.is("go(0)", x.go(0), NONE);
    }

    @Says(promise = 1, value = "A new object")
    static void objectsHaveNothingInCommon(Due due) {
        KeyShares x = new KeyShares();
        Edges.settle(x);
        KeyShares other = new KeyShares();
        int[] counts = {0, 0, 0, 0, 101, 0, 0};
        for (int what = 0; what < counts.length; what++) {
            due.is("count(" + what + ")", other.count(what), counts[what]);
        }
        due.is("backend(10, 1)", other.backend(10, 1), 0);
    }

    @Says(promise = 2, value = "Hash k of x")
    static void hashOfNoughtAndByNought(Due due) {
        KeyShares x = new KeyShares();
        due.is("hash(0, 0)", x.hash(0, 0), 0);
        due.is("hash(0, 1)", x.hash(0, 1), 0xE220A8397B1DCDAFL);
        due.is("hash(1, 0)", x.hash(1, 0), 6238072747940578789L);
    }

    @Says(promise = 2, value = "Hash k of x")
    static void hashByNumbersBelowNought(Due due) {
        KeyShares x = new KeyShares();
        due.is("hash(stride, -1), the sum being 0", x.hash(Hashes.STRIDE, -1), 0);
        due.is("hash(-1, -1)", x.hash(-1, -1), -2447048559937167164L);
        due.is("hash(5, -4)", x.hash(5, -4), Hashes.hash(5, -4));
        due.is("hash(5, MIN)", x.hash(5, MIN), Hashes.hash(5, MIN));
    }

    @Says(promise = 2, value = "Hash k of x")
    static void hashOfTheLeastAndTheGreatest(Due due) {
        KeyShares x = new KeyShares();
        due.is("hash(MAX, MAX)", x.hash(Long.MAX_VALUE, MAX), -2484340678953185034L);
        due.is("hash(MIN, MAX)", x.hash(Long.MIN_VALUE, MAX), Hashes.hash(Long.MIN_VALUE, MAX));
        due.is("hash(MIN, MIN)", x.hash(Long.MIN_VALUE, MIN), Hashes.hash(Long.MIN_VALUE, MIN));
        due.is("hash(MAX, MIN)", x.hash(Long.MAX_VALUE, MIN), Hashes.hash(Long.MAX_VALUE, MIN));
    }

    @Says(promise = 3, value = "NONE when that id is there")
    static void anIdThatIsThere(Due due) {
        Edges.refused(due, Edges::settle, x -> x.backend(10, 1), NONE);
        Edges.refused(due, Edges::settle, x -> x.backend(30, 8), NONE);
    }

    @Says(promise = 3, value = "NONE when that id is there")
    static void anIdThatIsThereAndDown(Due due) {
        Edges.refused(due, Edges::settle, x -> x.backend(-20, 2), NONE);
    }

    @Says(promise = 3, value = "NONE when that id is there")
    static void theIdNought(Due due) {
        KeyShares x = new KeyShares();
        due.is("backend(0, 1), no id being there", x.backend(0, 1), 0);
        due.is("backend(0, 1) again", x.backend(0, 1), NONE);
        due.is("count(0)", x.count(0), 1);
    }

    @Says(promise = 3, value = "NONE when that id is there")
    static void anIdThatIsNoMoreThere(Due due) {
        KeyShares x = new KeyShares();
        Edges.backends(x, 5, 6);
        x.remove(0);
        due.is("backend(5, 3)", x.backend(5, 3), 0);
        due.is("backend(6, 3)", x.backend(6, 3), NONE);
    }

    @Says(promise = 3, value = "the weight is not 1 .. 8")
    static void weightsTooSmallForANewOne(Due due) {
        for (int weight : new int[] {0, -1, -8, MIN, MIN + 1}) {
            Edges.refused(due, Edges::settle, x -> x.backend(77, weight), NONE);
        }
    }

    @Says(promise = 3, value = "the weight is not 1 .. 8")
    static void weightsTooLargeForANewOne(Due due) {
        for (int weight : new int[] {9, 16, 257, 264, MAX}) {
            Edges.refused(due, Edges::settle, x -> x.backend(77, weight), NONE);
        }
    }

    @Says(promise = 3, value = "the weight is not 1 .. 8")
    static void everyWeightFromOneToEight(Due due) {
        KeyShares x = new KeyShares();
        for (int weight = 1; weight <= 8; weight++) {
            due.is("backend(" + weight + ", " + weight + ")", x.backend(weight, weight), weight - 1);
            due.is("of(" + (weight - 1) + ", 0)", x.of(weight - 1, 0), weight);
        }
    }

    @Says(promise = 3, value = "or there are 32")
    static void thirtyTwoAreThere(Due due) {
        Edges.refused(due, Edges::fullOfBackends, x -> x.backend(1, 1), NONE);
    }

    @Says(promise = 3, value = "or there are 32")
    static void thirtyOneAreThere(Due due) {
        KeyShares x = new KeyShares();
        for (int b = 0; b < 31; b++) {
            x.backend(b, 1);
        }
        due.is("backend(31, 1), the last one", x.backend(31, 1), 31);
        due.is("backend(32, 1), one too many", x.backend(32, 1), NONE);
        due.is("count(0)", x.count(0), 32);
    }

    @Says(promise = 3, value = "or there are 32")
    static void downOnesAreThereToo(Due due) {
        KeyShares x = new KeyShares();
        Edges.fullOfBackends(x);
        for (int b = 0; b < 32; b++) {
            x.state(b, 0);
        }
        due.is("backend(1, 1), all being down", x.backend(1, 1), NONE);
        due.is("count(0)", x.count(0), 32);
    }

    @Says(promise = 3, value = "or there are 32")
    static void removedOnesAreNotThere(Due due) {
        KeyShares x = new KeyShares();
        Edges.fullOfBackends(x);
        x.remove(31);
        due.is("backend(1, 1)", x.backend(1, 1), 31);
        due.is("backend(2, 1)", x.backend(2, 1), NONE);
        x.remove(0);
        due.is("backend(2, 1)", x.backend(2, 1), 0);
    }

    @Says(promise = 3, value = "One more backend")
    static void aNewOneHasNothingOfTheOneThatHadItsNumber(Due due) {
        KeyShares x = new KeyShares();
        x.backend(1, 8);
        Edges.come(x, 1, 2, 3);
        x.state(0, 0);
        x.remove(0);
        due.is("backend(2, 3)", x.backend(2, 3), 0);
        int[] want = {3, 1, 0, 0};
        for (int what = 0; what < want.length; what++) {
            due.is("of(0, " + what + ")", x.of(0, what), want[what]);
        }
        due.is("id(0)", x.id(0), 2);
        due.is("best(9, 0)", x.best(9, 0), Hashes.best(2, 3, 9));
    }

    @Says(promise = 4, value = "NONE when there is none such")
    static void removeOfNoneSuch(Due due) {
        for (int b : Edges.NO_BACKENDS) {
            Edges.refused(due, Edges::settle, x -> x.remove(b), NONE);
        }
    }

    @Says(promise = 4, value = "NONE when there is none such")
    static void removeWhenThereAreNone(Due due) {
        for (int b = 0; b < 32; b++) {
            due.is("remove(" + b + ")", new KeyShares().remove(b), NONE);
        }
    }

    @Says(promise = 4, value = "NONE when there is none such")
    static void removeTwice(Due due) {
        KeyShares x = new KeyShares();
        Edges.backends(x, 1, 2, 3);
        due.is("remove(1)", x.remove(1), 0);
        due.is("remove(1) again", x.remove(1), NONE);
        due.is("count(0)", x.count(0), 2);
    }

    @Says(promise = 4, value = "NONE when there is none such")
    static void removeOutsideOfTheNumbersWhenAllAreThere(Due due) {
        for (int b : new int[] {-1, 32, MIN, MAX}) {
            Edges.refused(due, Edges::fullOfBackends, x -> x.remove(b), NONE);
        }
    }

    @Says(promise = 4, value = "A backend is no more")
    static void removeOfTheFirstAndTheLastNumber(Due due) {
        KeyShares x = new KeyShares();
        Edges.fullOfBackends(x);
        due.is("remove(0)", x.remove(0), 0);
        due.is("remove(31)", x.remove(31), 0);
        due.is("count(0)", x.count(0), 30);
        due.is("of(0, 0)", x.of(0, 0), NONE);
        due.is("of(31, 0)", x.of(31, 0), NONE);
        due.is("id(1)", x.id(1), 101);
        due.is("id(30)", x.id(30), 130);
    }

    @Says(promise = 4, value = "A backend is no more")
    static void removeOfAllOneByOne(Due due) {
        KeyShares x = new KeyShares();
        Edges.fullOfBackends(x);
        for (int b = 31; b >= 0; b--) {
            due.is("remove(" + b + ")", x.remove(b), 0);
            due.is("count(0)", x.count(0), b);
        }
        due.is("choice(1)", x.choice(1), NONE);
        due.is("backend(100, 1)", x.backend(100, 1), 0);
    }

    @Says(promise = 4, value = "how many of its keys have another one now")
    static void removeWithoutKeys(Due due) {
        KeyShares x = new KeyShares();
        x.backend(1, 1);
        Edges.come(x, 1, 2, 3);
        x.backend(2, 1);
        due.is("remove(1)", x.remove(1), 0);
        due.is("count(3)", x.count(3), 3);
    }

    @Says(promise = 4, value = "how many of its keys have another one now")
    static void removeOfTheOnlyOne(Due due) {
        KeyShares x = new KeyShares();
        x.backend(1, 1);
        Edges.come(x, 1, 2, 3);
        due.is("remove(0), there being no other", x.remove(0), 0);
        due.is("count(3)", x.count(3), 0);
    }

    @Says(promise = 4, value = "how many of its keys have another one now")
    static void removeOfTheOnlyOneThatIsUp(Due due) {
        KeyShares x = new KeyShares();
        Edges.backends(x, 1, 2);
        x.state(1, 0);
        Edges.come(x, 1, 2, 3);
        due.is("remove(0), the other being down", x.remove(0), 0);
        due.is("count(3)", x.count(3), 0);
        due.is("of(1, 2)", x.of(1, 2), 0);
    }

    @Says(promise = 4, value = "how many of its keys have another one now")
    static void removeOfOneThatIsDown(Due due) {
        KeyShares x = new KeyShares();
        Edges.backends(x, 1, 2);
        Edges.come(x, 1, 2, 3);
        x.state(0, 0);
        due.is("remove(0), its keys having moved before", x.remove(0), 0);
        due.is("of(1, 2)", x.of(1, 2), 3);
    }

    @Says(promise = 4, value = "how many of its keys have another one now")
    static void removeWithAsManyKeysAsThereMayBe(Due due) {
        KeyShares x = new KeyShares();
        x.backend(1, 1);
        for (int key = 0; key < 300; key++) {
            x.come(key);
        }
        x.backend(2, 1);
        due.is("remove(0)", x.remove(0), 300);
        due.is("of(1, 2)", x.of(1, 2), 300);
        due.is("come(300)", x.come(300), NONE);
    }

    @Says(promise = 5, value = "when there is none such")
    static void stateOfNoneSuch(Due due) {
        for (int b : Edges.NO_BACKENDS) {
            Edges.refused(due, Edges::settle, x -> x.state(b, 0), NONE);
            Edges.refused(due, Edges::settle, x -> x.state(b, 1), NONE);
        }
    }

    @Says(promise = 5, value = "when there is none such")
    static void stateOfARemovedOne(Due due) {
        KeyShares x = new KeyShares();
        Edges.backends(x, 1, 2);
        x.remove(0);
        due.is("state(0, 0)", x.state(0, 0), NONE);
        due.is("state(0, 1)", x.state(0, 1), NONE);
        due.is("count(1)", x.count(1), 1);
    }

    @Says(promise = 5, value = "or it is so")
    static void upWhenUp(Due due) {
        Edges.refused(due, Edges::settle, x -> x.state(0, 1), NONE);
        Edges.refused(due, Edges::settle, x -> x.state(2, 1), NONE);
    }

    @Says(promise = 5, value = "or it is so")
    static void downWhenDown(Due due) {
        Edges.refused(due, Edges::settle, x -> x.state(1, 0), NONE);
    }

    /** The document has no words for these; NONE is its "nothing is done". */
    @Says(promise = 5, value = "A backend is up (1) or down (0)")
    static void neitherUpNorDown(Due due) {
        for (int up : new int[] {2, -1, 256, MIN, MAX}) {
            Edges.refused(due, Edges::settle, x -> x.state(0, up), NONE);
            Edges.refused(due, Edges::settle, x -> x.state(1, up), NONE);
        }
    }

    @Says(promise = 5, value = "how many keys have another one now")
    static void downWithKeys(Due due) {
        KeyShares x = new KeyShares();
        x.slack(0);
        Edges.backends(x, 1, 2);
        Edges.come(x, 1, 2, 3, 4, 5, 6);
        due.is("state(0, 0)", x.state(0, 0), 3);
        due.is("of(1, 2)", x.of(1, 2), 6);
    }

    @Says(promise = 5, value = "how many keys have another one now")
    static void downWithoutKeys(Due due) {
        KeyShares x = new KeyShares();
        Edges.backends(x, 1, 2);
        due.is("state(0, 0)", x.state(0, 0), 0);
        due.is("state(1, 0)", x.state(1, 0), 0);
        due.is("count(1)", x.count(1), 0);
    }

    @Says(promise = 5, value = "how many keys have another one now")
    static void downWhenNoOtherIsUp(Due due) {
        KeyShares x = new KeyShares();
        x.backend(1, 1);
        Edges.come(x, 1, 2);
        due.is("state(0, 0)", x.state(0, 0), 0);
        due.is("count(3)", x.count(3), 0);
    }

    @Says(promise = 5, value = "how many keys have another one now")
    static void upMovesNoKeys(Due due) {
        KeyShares x = new KeyShares();
        x.slack(0);
        Edges.backends(x, 1, 2);
        Edges.come(x, 1, 2, 3, 4);
        x.state(0, 0);
        due.is("state(0, 1)", x.state(0, 1), 0);
        due.is("of(0, 2)", x.of(0, 2), 0);
        due.is("of(1, 2)", x.of(1, 2), 4);
    }

    @Says(promise = 5, value = "how many keys have another one now")
    static void downWithAsManyKeysAsThereMayBe(Due due) {
        KeyShares x = new KeyShares();
        x.backend(1, 1);
        for (int key = 0; key < 300; key++) {
            x.come(key);
        }
        x.backend(2, 1);
        due.is("state(0, 0)", x.state(0, 0), 300);
        due.is("of(1, 2)", x.of(1, 2), 300);
        due.is("key(0)", x.key(0), 0);
        due.is("key(299)", x.key(299), 299);
    }

    @Says(promise = 6, value = "when there is none such")
    static void weighOfNoneSuch(Due due) {
        for (int b : Edges.NO_BACKENDS) {
            Edges.refused(due, Edges::settle, x -> x.weigh(b, 4), 0);
        }
    }

    @Says(promise = 6, value = "when there is none such")
    static void weighOfARemovedOne(Due due) {
        KeyShares x = new KeyShares();
        x.backend(1, 1);
        x.remove(0);
        due.is("weigh(0, 1)", x.weigh(0, 1), 0);
    }

    @Says(promise = 6, value = "or it is not 1 .. 8")
    static void weightsTooSmall(Due due) {
        for (int weight : new int[] {0, -1, -8, MIN}) {
            Edges.refused(due, Edges::settle, x -> x.weigh(0, weight), 0);
        }
    }

    @Says(promise = 6, value = "or it is not 1 .. 8")
    static void weightsTooLarge(Due due) {
        for (int weight : new int[] {9, 16, 257, MAX}) {
            Edges.refused(due, Edges::settle, x -> x.weigh(0, weight), 0);
        }
    }

    @Says(promise = 6, value = "A backend has another weight: 1")
    static void everyWeightThatThereIs(Due due) {
        KeyShares x = new KeyShares();
        x.backend(1, 4);
        for (int weight = 1; weight <= 8; weight++) {
            due.is("weigh(0, " + weight + ")", x.weigh(0, weight), 1);
            due.is("of(0, 0)", x.of(0, 0), weight);
            due.is("best(3, 0)", x.best(3, 0), Hashes.best(1, weight, 3));
        }
    }

    /** The weight is 1 .. 8 and there is one such, so that nothing lets the answer be 0. */
    @Says(promise = 6, value = "A backend has another weight: 1")
    static void theWeightThatItHas(Due due) {
        KeyShares x = new KeyShares();
        x.backend(1, 4);
        due.is("weigh(0, 4)", x.weigh(0, 4), 1);
        due.is("of(0, 0)", x.of(0, 0), 4);
    }

    @Says(promise = 6, value = "A backend has another weight: 1")
    static void weighOfADownOne(Due due) {
        KeyShares x = new KeyShares();
        Edges.backends(x, 1, 2);
        x.state(0, 0);
        due.is("weigh(0, 8)", x.weigh(0, 8), 1);
        due.is("of(0, 0)", x.of(0, 0), 8);
        due.is("of(0, 1)", x.of(0, 1), 0);
        due.is("count(2)", x.count(2), 1);
        x.state(0, 1);
        due.is("count(2), being up again", x.count(2), 9);
    }

    @Says(promise = 6, value = "A backend has another weight: 1")
    static void anotherWeightLeavesTheTableTillTheNextFill(Due due) {
        KeyShares x = new KeyShares();
        x.size(3);
        Edges.backends(x, 1, 2);
        x.fill();
        x.weigh(1, 8);
        x.weigh(0, 1);
        due.is("of(0, 4)", x.of(0, 4), 2);
        x.weigh(0, 3);
        x.fill();
        due.is("of(0, 4), filled anew", x.of(0, 4), 3);
    }
}
