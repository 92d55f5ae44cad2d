import java.io.IOException;

/** The boundaries that promises 7 to 11 name, a case for each. */
public final class TableEdgesTest {
    private static final int NONE = Edges.NONE;
    private static final int MIN = Integer.MIN_VALUE;
    private static final int MAX = Integer.MAX_VALUE;

    private TableEdgesTest() {
    }

    public static void main(String[] args) throws IOException {
        Edges.runAll(TableEdgesTest.class, 7, 11);
    }

    @Says(promise = 7, value = "when it is no prime from 2 to 997")
    static void sizesTooSmall(Due due) {
        for (int p : new int[] {1, 0, -1, -2, -3, -7, -101, MIN, MIN + 1}) {
            Edges.refused(due, Edges::settle, x -> x.size(p), 0);
        }
    }

    /** 1009 and MAX are primes. */
    @Says(promise = 7, value = "when it is no prime from 2 to 997")
    static void sizesTooLarge(Due due) {
        for (int p : new int[] {998, 999, 1000, 1009, 1013, 65537, MAX, MAX - 1}) {
            Edges.refused(due, Edges::settle, x -> x.size(p), 0);
        }
    }

    /** Squares of primes, and products of two near each other, pass a search that ends too soon. */
    @Says(promise = 7, value = "when it is no prime from 2 to 997")
    static void sizesThatAreNoPrimes(Due due) {
        for (int p : new int[] {4, 6, 8, 9, 15, 25, 49, 100, 121, 169, 289, 361, 529, 841, 899, 961, 989, 995, 996}) {
            Edges.refused(due, Edges::settle, x -> x.size(p), 0);
        }
    }

    @Says(promise = 7, value = "when it is no prime from 2 to 997")
    static void theLeastAndTheGreatestSize(Due due) {
        for (int p : new int[] {2, 997}) {
            KeyShares x = new KeyShares();
            x.backend(1, 1);
            due.is("size(" + p + ")", x.size(p), 1);
            due.is("count(4)", x.count(4), p);
            due.is("fill()", x.fill(), p);
            due.is("slot(" + (p - 1) + ")", x.slot(p - 1), 0);
            due.is("slot(" + p + ")", x.slot(p), NONE);
            due.is("of(0, 4)", x.of(0, 4), p);
        }
    }

    @Says(promise = 7, value = "when it is no prime from 2 to 997")
    static void everyPrimeAndNothingElse(Due due) {
        int primes = 0;
        for (int from = 0; from < 1000; from += 200) {
            KeyShares x = new KeyShares();
            for (int p = from; p < from + 200; p++) {
                int want = divisors(p) == 2 ? 1 : 0;
                due.is("size(" + p + ")", x.size(p), want);
                primes += want;
            }
        }
        due.is("primes below 1000", primes, 168);
    }

    private static int divisors(int p) {
        int sum = 0;
        for (int d = 1; d <= p; d++) {
            sum += p % d == 0 ? 1 : 0;
        }
        return sum;
    }

    @Says(promise = 7, value = "The table's size from the next fill() on")
    static void aToldSizeWaitsForTheNextFill(Due due) {
        KeyShares x = new KeyShares();
        x.size(5);
        x.backend(1, 1);
        x.fill();
        x.size(3);
        due.is("count(5), a smaller one told", x.count(5), 5);
        due.is("slot(4), a smaller one told", x.slot(4), 0);
        x.size(7);
        due.is("count(5), a larger one told", x.count(5), 5);
        due.is("slot(5), a larger one told", x.slot(5), NONE);
        due.is("count(4)", x.count(4), 7);
        x.fill();
        due.is("count(5), filled", x.count(5), 7);
    }

    @Says(promise = 7, value = "The table's size from the next fill() on")
    static void aToldSizeWaitsThroughARefusedFill(Due due) {
        KeyShares x = new KeyShares();
        Edges.backends(x, 1, 2);
        x.size(2);
        due.is("fill(), 2 up for 2 slots", x.fill(), NONE);
        due.is("count(4)", x.count(4), 2);
        due.is("count(5)", x.count(5), 0);
        x.state(0, 0);
        due.is("fill(), 1 up for 2 slots", x.fill(), 2);
    }

    @Says(promise = 7, value = "The table's size from the next fill() on")
    static void theSizeToldLastCounts(Due due) {
        KeyShares x = new KeyShares();
        x.backend(1, 1);
        x.size(13);
        x.size(5);
        x.size(6);
        due.is("count(4)", x.count(4), 5);
        due.is("fill()", x.fill(), 5);
    }

    @Says(promise = 8, value = "when it is not that")
    static void slackTooSmall(Due due) {
        for (int percent : new int[] {-1, -25, -100, -101, MIN}) {
            Edges.refused(due, Edges::settle, x -> x.slack(percent), 0);
        }
    }

    @Says(promise = 8, value = "when it is not that")
    static void slackTooLarge(Due due) {
        for (int percent : new int[] {301, 302, 1000, MAX}) {
            Edges.refused(due, Edges::settle, x -> x.slack(percent), 0);
        }
    }

    @Says(promise = 8, value = "The slack, 0 to 300: 1")
    static void theLeastAndTheGreatestSlack(Due due) {
        KeyShares x = new KeyShares();
        x.backend(1, 1);
        Edges.come(x, 1, 2, 3);
        due.is("slack(0)", x.slack(0), 1);
        due.is("of(0, 3)", x.of(0, 3), 3);
        due.is("slack(300)", x.slack(300), 1);
        due.is("of(0, 3)", x.of(0, 3), 12);
        due.is("slack(300) again", x.slack(300), 1);
    }

    /** With 300 keys, all weights 8 and slack 300 the products are as great as they can be. */
    @Says(promise = 8, value = "The slack, 0 to 300: 1")
    static void theGreatestRoomThatThereIs(Due due) {
        KeyShares x = new KeyShares();
        x.backend(1, 8);
        for (int key = 0; key < 300; key++) {
            x.come(key);
        }
        x.slack(300);
        due.is("of(0, 3)", x.of(0, 3), 1200);
    }

    @Says(promise = 9, value = "all, if it had another size")
    static void theFirstFillIsAll(Due due) {
        KeyShares x = new KeyShares();
        due.is("fill(), none up, slots that had none have none", x.fill(), 101);
        KeyShares y = new KeyShares();
        y.backend(1, 1);
        due.is("fill(), one up", y.fill(), 101);
    }

    @Says(promise = 9, value = "all, if it had another size")
    static void aLargerAndASmallerTableAreAll(Due due) {
        KeyShares x = new KeyShares();
        x.backend(1, 1);
        x.size(5);
        x.fill();
        x.size(7);
        due.is("fill(), a larger one", x.fill(), 7);
        x.size(2);
        due.is("fill(), a smaller one", x.fill(), 2);
        x.size(7);
        due.is("fill(), the larger one again", x.fill(), 7);
    }

    @Says(promise = 9, value = "all, if it had another size")
    static void aSizeToldBackIsNoOther(Due due) {
        KeyShares x = new KeyShares();
        x.backend(1, 1);
        x.size(5);
        x.fill();
        x.size(7);
        x.size(5);
        due.is("fill()", x.fill(), 0);
    }

    @Says(promise = 9, value = "how many slots have another backend (or none) than before")
    static void nothingHasChanged(Due due) {
        KeyShares x = new KeyShares();
        Edges.backends(x, 1, 2, 3);
        x.fill();
        due.is("fill()", x.fill(), 0);
        x.state(1, 0);
        x.state(1, 1);
        due.is("fill(), one having been down", x.fill(), 0);
    }

    @Says(promise = 9, value = "how many slots have another backend (or none) than before")
    static void fromNoneAndToNone(Due due) {
        KeyShares x = new KeyShares();
        x.size(5);
        x.fill();
        due.is("fill(), none up again", x.fill(), 0);
        x.backend(1, 1);
        due.is("fill(), from none", x.fill(), 5);
        x.state(0, 0);
        due.is("fill(), to none", x.fill(), 5);
        due.is("slot(0)", x.slot(0), NONE);
        due.is("count(5)", x.count(5), 5);
    }

    /** As the shared tests have it: the table has numbers, and another backend with the same number is no change. */
    @Says(promise = 9, value = "how many slots have another backend (or none) than before")
    static void anotherBackendWithTheSameNumber(Due due) {
        KeyShares x = new KeyShares();
        x.backend(1, 1);
        x.fill();
        x.remove(0);
        x.backend(2, 1);
        due.is("fill()", x.fill(), 0);
    }

    @Says(promise = 9, value = "when there are not less that are up than slots")
    static void asManyUpAsSlots(Due due) {
        Edges.refused(due, x -> {
            Edges.backends(x, 1, 2, 3);
            x.size(5);
            x.fill();
            x.size(3);
        }, x -> x.fill(), NONE);
    }

    @Says(promise = 9, value = "when there are not less that are up than slots")
    static void moreUpThanSlots(Due due) {
        Edges.refused(due, x -> {
            Edges.fullOfBackends(x);
            x.fill();
            x.size(2);
        }, x -> x.fill(), NONE);
    }

    @Says(promise = 9, value = "when there are not less that are up than slots")
    static void oneLessUpThanSlots(Due due) {
        KeyShares x = new KeyShares();
        x.size(3);
        Edges.backends(x, 1, 2);
        due.is("fill(), 2 up for 3 slots", x.fill(), 3);
        Edges.backends(x, 3);
        due.is("fill(), 3 up for 3 slots", x.fill(), NONE);
    }

    @Says(promise = 9, value = "when there are not less that are up than slots")
    static void thirtyTwoUp(Due due) {
        KeyShares x = new KeyShares();
        Edges.fullOfBackends(x);
        x.size(31);
        due.is("fill(), 32 up for 31 slots", x.fill(), NONE);
        x.state(9, 0);
        due.is("fill(), 31 up for 31 slots", x.fill(), NONE);
        x.state(9, 1);
        x.size(37);
        due.is("fill(), 32 up for 37 slots", x.fill(), 37);
    }

    @Says(promise = 9, value = "when there are not less that are up than slots")
    static void downOnesDoNotCount(Due due) {
        KeyShares x = new KeyShares();
        x.size(2);
        Edges.backends(x, 1, 2, 3);
        x.state(0, 0);
        due.is("fill(), 2 of 3 up", x.fill(), NONE);
        x.state(2, 0);
        due.is("fill(), 1 of 3 up", x.fill(), 2);
        due.is("slot(0)", x.slot(0), 1);
    }

    @Says(promise = 9, value = "when there are not less that are up than slots")
    static void weightsDoNotCount(Due due) {
        KeyShares x = new KeyShares();
        x.size(2);
        x.backend(1, 8);
        due.is("fill(), one of weight 8 for 2 slots", x.fill(), 2);
    }

    @Says(promise = 9, value = "when there are not less that are up than slots")
    static void theSizeAsToldCountsAndNotTheTables(Due due) {
        KeyShares x = new KeyShares();
        Edges.backends(x, 1);
        x.size(2);
        x.fill();
        Edges.backends(x, 2, 3);
        x.size(5);
        due.is("fill(), 3 up, from 2 slots to 5", x.fill(), 5);
        x.size(3);
        due.is("fill(), 3 up, from 5 slots to 3", x.fill(), NONE);
        due.is("count(5)", x.count(5), 5);
    }

    @Says(promise = 9, value = "Fills the table")
    static void theMostBackendsFillTheLargestTable(Due due) {
        KeyShares x = new KeyShares();
        for (int b = 0; b < 32; b++) {
            x.backend(b, 8);
        }
        x.size(997);
        due.is("fill()", x.fill(), 997);
        // Three rounds of 256 slots, and 229 slots of a fourth: 28 whole turns, and 5 slots of one more.
        for (int b = 0; b < 32; b++) {
            due.is("of(" + b + ", 4)", x.of(b, 4), b < 28 ? 32 : b == 28 ? 29 : 24);
        }
        due.is("check()", x.check(), 1);
        due.is("fill() again", x.fill(), 0);
        due.is("count(6)", x.count(6), 0);
    }

    @Says(promise = 10, value = "NONE when there is none such")
    static void slotsOutsideOfTheTable(Due due) {
        KeyShares x = new KeyShares();
        x.size(5);
        x.backend(1, 1);
        x.fill();
        for (int k : new int[] {-1, 5, 6, 101, 996, 997, 998, MIN, MAX}) {
            due.is("slot(" + k + ")", x.slot(k), NONE);
        }
    }

    @Says(promise = 10, value = "NONE when there is none such")
    static void theFirstAndTheLastSlot(Due due) {
        KeyShares x = new KeyShares();
        x.size(997);
        x.backend(1, 1);
        x.fill();
        due.is("slot(0)", x.slot(0), 0);
        due.is("slot(996)", x.slot(996), 0);
        due.is("slot(997)", x.slot(997), NONE);
    }

    @Says(promise = 10, value = "NONE when there is none such")
    static void slotsThatASmallerTableHasNoMore(Due due) {
        KeyShares x = new KeyShares();
        x.size(7);
        x.backend(1, 1);
        x.fill();
        x.size(3);
        x.fill();
        due.is("slot(2)", x.slot(2), 0);
        due.is("slot(3)", x.slot(3), NONE);
        due.is("slot(6)", x.slot(6), NONE);
    }

    @Says(promise = 10, value = "or none")
    static void slotsThatNoneTook(Due due) {
        KeyShares x = new KeyShares();
        x.size(3);
        x.fill();
        due.is("slot(0), none being there", x.slot(0), NONE);
        x.backend(1, 1);
        x.state(0, 0);
        x.fill();
        due.is("slot(0), none being up", x.slot(0), NONE);
        due.is("slot(2), none being up", x.slot(2), NONE);
    }

    @Says(promise = 10, value = "(also when that is down or removed by now)")
    static void theTakerIsDownByNow(Due due) {
        KeyShares x = new KeyShares();
        x.size(3);
        x.backend(1, 1);
        x.fill();
        x.state(0, 0);
        due.is("slot(0)", x.slot(0), 0);
        due.is("lookup(5)", x.lookup(5), 0);
    }

    @Says(promise = 10, value = "(also when that is down or removed by now)")
    static void theTakerIsRemovedByNow(Due due) {
        KeyShares x = new KeyShares();
        x.size(3);
        x.backend(1, 1);
        x.fill();
        x.remove(0);
        due.is("slot(0)", x.slot(0), 0);
        due.is("lookup(5)", x.lookup(5), 0);
    }

    @Says(promise = 10, value = "in the latest fill()")
    static void whoCameSinceHasNoSlot(Due due) {
        KeyShares x = new KeyShares();
        x.size(3);
        x.backend(5, 1);
        x.fill();
        x.backend(1, 8);
        due.is("of(1, 4)", x.of(1, 4), 0);
        for (int k = 0; k < 3; k++) {
            due.is("slot(" + k + ")", x.slot(k), 0);
        }
    }

    @Says(promise = 10, value = "in the latest fill()")
    static void aRefusedFillIsNotTheLatest(Due due) {
        KeyShares x = new KeyShares();
        x.size(2);
        x.backend(5, 1);
        x.fill();
        x.backend(1, 1);
        x.fill();
        due.is("slot(0)", x.slot(0), 0);
        due.is("slot(1)", x.slot(1), 0);
    }

    @Says(promise = 11, value = "NONE when there was none")
    static void lookupInAnEmptyTable(Due due) {
        KeyShares x = new KeyShares();
        x.backend(1, 1);
        for (long key : new long[] {0, 1, -1, Long.MIN_VALUE, Long.MAX_VALUE}) {
            due.is("lookup(" + key + ")", x.lookup(key), NONE);
        }
    }

    @Says(promise = 11, value = "NONE when there was none")
    static void lookupInATableThatNoneTook(Due due) {
        KeyShares x = new KeyShares();
        x.fill();
        x.backend(1, 1);
        for (long key : new long[] {0, 1, -1, Long.MIN_VALUE, Long.MAX_VALUE}) {
            due.is("lookup(" + key + ")", x.lookup(key), NONE);
        }
    }

    @Says(promise = 11, value = "The backend that took a key's slot")
    static void lookupGoesByTheTableAndNotByTheToldSize(Due due) {
        KeyShares x = new KeyShares();
        x.size(7);
        Edges.backends(x, 1, 2, 3, 4, 5);
        x.fill();
        x.size(2);
        for (long key = -10; key < 10; key++) {
            due.is("lookup(" + key + ")", x.lookup(key), x.slot(Hashes.slot(key, 7)));
        }
    }

    @Says(promise = 11, value = "The backend that took a key's slot")
    static void lookupInTheLeastTable(Due due) {
        KeyShares x = new KeyShares();
        x.size(2);
        x.backend(1, 1);
        x.fill();
        for (long key : new long[] {0, 1, -1, Long.MIN_VALUE, Long.MAX_VALUE}) {
            due.is("lookup(" + key + ")", x.lookup(key), 0);
        }
    }

    @Says(promise = 11, value = "The backend that took a key's slot")
    static void lookupOfTheLeastAndTheGreatestKey(Due due) {
        KeyShares x = new KeyShares();
        x.size(997);
        Edges.fullOfBackends(x);
        x.fill();
        for (long key : new long[] {0, 1, -1, Long.MIN_VALUE, Long.MAX_VALUE}) {
            due.is("lookup(" + key + ")", x.lookup(key), x.slot(Hashes.slot(key, 997)));
        }
    }
}
