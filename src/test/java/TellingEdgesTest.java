import java.io.IOException;

/** The boundaries that promises 16 to 20 name, a case for each. */
public final class TellingEdgesTest {
    private static final int NONE = Edges.NONE;
    private static final int MIN = Integer.MIN_VALUE;
    private static final int MAX = Integer.MAX_VALUE;
    private static final int[] NO_WHATS = {-1, 7, 8, 256, MIN, MAX};

    private TellingEdgesTest() {
    }

    public static void main(String[] args) throws IOException {
        Edges.runAll(TellingEdgesTest.class, 16, 20);
    }

    @Says(promise = 16, value = "NONE for others")
    static void ofNoneSuch(Due due) {
        KeyShares x = new KeyShares();
        Edges.settle(x);
        for (int b : Edges.NO_BACKENDS) {
            for (int what = 0; what <= 6; what++) {
                due.is("of(" + b + ", " + what + ")", x.of(b, what), NONE);
            }
        }
    }

    @Says(promise = 16, value = "NONE for others")
    static void ofARemovedOne(Due due) {
        KeyShares x = new KeyShares();
        Edges.settle(x);
        x.remove(2);
        for (int what = 0; what <= 6; what++) {
            due.is("of(2, " + what + ")", x.of(2, what), NONE);
        }
    }

    @Says(promise = 16, value = "NONE for others")
    static void ofSomethingElse(Due due) {
        KeyShares x = new KeyShares();
        Edges.settle(x);
        for (int what : NO_WHATS) {
            due.is("of(0, " + what + ")", x.of(0, what), NONE);
            due.is("of(1, " + what + "), being down", x.of(1, what), NONE);
            due.is("of(31, " + what + "), none such", x.of(31, what), NONE);
        }
    }

    @Says(promise = 16, value = "the weight (what 0)")
    static void ofWeights(Due due) {
        KeyShares x = new KeyShares();
        x.backend(1, 8);
        due.is("of(0, 0)", x.of(0, 0), 8);
        x.weigh(0, 1);
        due.is("of(0, 0)", x.of(0, 0), 1);
        x.state(0, 0);
        due.is("of(0, 0), being down", x.of(0, 0), 1);
    }

    @Says(promise = 16, value = "whether it is up (1)")
    static void ofUpAndDown(Due due) {
        KeyShares x = new KeyShares();
        x.backend(1, 8);
        due.is("of(0, 1)", x.of(0, 1), 1);
        x.state(0, 0);
        due.is("of(0, 1)", x.of(0, 1), 0);
        x.state(0, 1);
        due.is("of(0, 1)", x.of(0, 1), 1);
    }

    @Says(promise = 16, value = "how many keys it has (2)")
    static void ofKeysNoneAndAll(Due due) {
        KeyShares x = new KeyShares();
        x.backend(1, 1);
        due.is("of(0, 2), no keys", x.of(0, 2), 0);
        for (int key = 0; key < 300; key++) {
            x.come(key);
        }
        due.is("of(0, 2), all keys", x.of(0, 2), 300);
        x.come(300);
        due.is("of(0, 2), one more having been refused", x.of(0, 2), 300);
        x.state(0, 0);
        due.is("of(0, 2), being down", x.of(0, 2), 0);
    }

    @Says(promise = 16, value = "for how many it has room, with as many in all as have one (3; 0 when down)")
    static void ofRoomWithNoKeys(Due due) {
        KeyShares x = new KeyShares();
        x.slack(300);
        x.backend(1, 8);
        due.is("of(0, 3)", x.of(0, 3), 0);
        x.come(1);
        due.is("of(0, 3), one key, not two", x.of(0, 3), 4);
    }

    @Says(promise = 16, value = "0 when down")
    static void ofRoomWhenDown(Due due) {
        KeyShares x = new KeyShares();
        Edges.backends(x, 1, 2);
        Edges.come(x, 1, 2, 3, 4);
        x.state(0, 0);
        due.is("of(0, 3), the other being up", x.of(0, 3), 0);
        due.is("of(1, 3)", x.of(1, 3), 5);
        x.state(1, 0);
        due.is("of(0, 3), none being up", x.of(0, 3), 0);
        due.is("of(1, 3), none being up", x.of(1, 3), 0);
        x.state(0, 1);
        due.is("of(0, 3), being up, the keys being gone", x.of(0, 3), 0);
    }

    @Says(promise = 16, value = "its slots in the table (4)")
    static void ofSlotsInAnEmptyTable(Due due) {
        KeyShares x = new KeyShares();
        x.backend(1, 1);
        due.is("of(0, 4), never filled", x.of(0, 4), 0);
        x.state(0, 0);
        x.fill();
        due.is("of(0, 4), filled with none", x.of(0, 4), 0);
    }

    @Says(promise = 16, value = "its slots in the table (4)")
    static void ofSlotsOfADownOne(Due due) {
        KeyShares x = new KeyShares();
        x.size(3);
        Edges.backends(x, 1, 2);
        x.fill();
        x.state(0, 0);
        due.is("of(0, 4), down since", x.of(0, 4), 2);
        x.fill();
        due.is("of(0, 4), filled anew", x.of(0, 4), 0);
        due.is("of(1, 4), filled anew", x.of(1, 4), 3);
    }

    /** A smaller table has no more of a larger one's slots, also where the row that held them is as long as before. */
    @Says(promise = 16, value = "its slots in the table (4)")
    static void ofSlotsOfASmallerTable(Due due) {
        KeyShares x = new KeyShares();
        x.size(997);
        x.backend(1, 1);
        x.fill();
        due.is("of(0, 4)", x.of(0, 4), 997);
        x.size(2);
        due.is("of(0, 4), a smaller one told", x.of(0, 4), 997);
        x.fill();
        due.is("of(0, 4), a smaller one filled", x.of(0, 4), 2);
    }

    @Says(promise = 16, value = "its offset (5) and step (6) by the size as told")
    static void ofOrdersByTheSizeAsTold(Due due) {
        KeyShares x = new KeyShares();
        x.backend(0, 1);
        x.fill();
        for (int p : new int[] {2, 3, 101, 997}) {
            x.size(p);
            due.is("of(0, 5) by " + p, x.of(0, 5), Hashes.offset(0, p));
            due.is("of(0, 6) by " + p, x.of(0, 6), Hashes.step(0, p));
        }
        due.is("count(5)", x.count(5), 101);
    }

    @Says(promise = 16, value = "its offset (5) and step (6) by the size as told")
    static void ofOrdersOfADownOne(Due due) {
        KeyShares x = new KeyShares();
        x.backend(-9, 1);
        x.state(0, 0);
        due.is("of(0, 5)", x.of(0, 5), Hashes.offset(-9, 101));
        due.is("of(0, 6)", x.of(0, 6), Hashes.step(-9, 101));
    }

    @Says(promise = 17, value = "0 when there is none such")
    static void idOfNoneSuch(Due due) {
        KeyShares x = new KeyShares();
        Edges.settle(x);
        for (int b : Edges.NO_BACKENDS) {
            due.is("id(" + b + ")", x.id(b), 0);
        }
        due.is("id(3)", x.id(3), 0);
    }

    @Says(promise = 17, value = "0 when there is none such")
    static void idOfARemovedOne(Due due) {
        KeyShares x = new KeyShares();
        Edges.backends(x, 5, 6);
        x.remove(0);
        due.is("id(0)", x.id(0), 0);
        due.is("id(1)", x.id(1), 6);
        x.backend(7, 1);
        due.is("id(0), a new one", x.id(0), 7);
    }

    @Says(promise = 17, value = "A backend's id")
    static void idOfTheFirstAndTheLastNumber(Due due) {
        KeyShares x = new KeyShares();
        Edges.fullOfBackends(x);
        due.is("id(0)", x.id(0), 100);
        due.is("id(31)", x.id(31), 131);
        due.is("id(32)", x.id(32), 0);
        due.is("id(-1)", x.id(-1), 0);
    }

    @Says(promise = 17, value = "A backend's id")
    static void idOfADownOne(Due due) {
        KeyShares x = new KeyShares();
        x.backend(Long.MIN_VALUE, 1);
        x.state(0, 0);
        due.is("id(0)", x.id(0), Long.MIN_VALUE);
    }

    @Says(promise = 18, value = "NONE for others")
    static void countOfSomethingElse(Due due) {
        KeyShares x = new KeyShares();
        Edges.settle(x);
        for (int what : NO_WHATS) {
            due.is("count(" + what + ")", x.count(what), NONE);
        }
    }

    @Says(promise = 18, value = "How many backends (what 0), of these up (1), all weights of those (2)")
    static void countOfTheMostBackends(Due due) {
        KeyShares x = new KeyShares();
        for (int b = 0; b < 33; b++) {
            x.backend(b, 8);
        }
        due.is("count(0)", x.count(0), 32);
        due.is("count(1)", x.count(1), 32);
        due.is("count(2)", x.count(2), 256);
    }

    @Says(promise = 18, value = "How many backends (what 0), of these up (1), all weights of those (2)")
    static void countOfDownOnes(Due due) {
        KeyShares x = new KeyShares();
        x.backend(1, 3);
        x.backend(2, 8);
        x.state(0, 0);
        due.is("count(0)", x.count(0), 2);
        due.is("count(1)", x.count(1), 1);
        due.is("count(2)", x.count(2), 8);
        x.state(1, 0);
        due.is("count(0)", x.count(0), 2);
        due.is("count(1)", x.count(1), 0);
        due.is("count(2)", x.count(2), 0);
    }

    @Says(promise = 18, value = "keys that have one (3)")
    static void countOfTheMostKeys(Due due) {
        KeyShares x = new KeyShares();
        due.is("count(3), none", x.count(3), 0);
        x.backend(1, 1);
        for (int key = 0; key < 301; key++) {
            x.come(key);
        }
        due.is("count(3)", x.count(3), 300);
        x.go(5);
        due.is("count(3)", x.count(3), 299);
    }

    @Says(promise = 18, value = "the size as told (4), slots of the table (5)")
    static void countOfSizeAndSlots(Due due) {
        KeyShares x = new KeyShares();
        due.is("count(5), never filled", x.count(5), 0);
        x.fill();
        due.is("count(5), filled with none", x.count(5), 101);
        x.size(997);
        due.is("count(4)", x.count(4), 997);
        due.is("count(5)", x.count(5), 101);
        x.fill();
        due.is("count(5)", x.count(5), 997);
        x.size(2);
        x.fill();
        due.is("count(4)", x.count(4), 2);
        due.is("count(5)", x.count(5), 2);
    }

    @Says(promise = 18, value = "0 when the table had another size")
    static void movedInATableOfAnotherSize(Due due) {
        KeyShares x = new KeyShares();
        x.backend(2, 1);
        x.size(5);
        x.fill();
        due.is("count(6), from the empty table", x.count(6), 0);
        x.backend(1, 1);
        x.fill();
        due.is("count(6), the least id taking three of five", x.count(6), 3);
        x.size(7);
        x.fill();
        due.is("count(6), another size", x.count(6), 0);
        x.size(5);
        x.fill();
        due.is("count(6), another size again", x.count(6), 0);
    }

    @Says(promise = 18, value = "moved from a number that one had that was up in it")
    static void movedFromNone(Due due) {
        KeyShares x = new KeyShares();
        x.fill();
        x.backend(1, 1);
        due.is("fill()", x.fill(), 101);
        due.is("count(6)", x.count(6), 0);
    }

    @Says(promise = 18, value = "moved from a number that one had that was up in it")
    static void movedFromADownOne(Due due) {
        KeyShares x = new KeyShares();
        x.size(5);
        Edges.backends(x, 1, 2);
        x.fill();
        x.state(0, 0);
        due.is("fill()", x.fill(), 3);
        due.is("count(6)", x.count(6), 0);
    }

    @Says(promise = 18, value = "moved from a number that one had that was up in it")
    static void movedFromARemovedOne(Due due) {
        KeyShares x = new KeyShares();
        x.size(5);
        Edges.backends(x, 1, 2);
        x.fill();
        x.remove(0);
        due.is("fill()", x.fill(), 3);
        due.is("count(6)", x.count(6), 0);
    }

    /** Number 0 is another backend's now, which is up: what moves from that number counts. */
    @Says(promise = 18, value = "moved from a number that one had that was up in it")
    static void movedFromANumberThatANewOneHas(Due due) {
        KeyShares x = new KeyShares();
        x.size(5);
        Edges.backends(x, 2, 1);
        x.fill();
        due.is("of(0, 4)", x.of(0, 4), 2);
        x.remove(0);
        x.backend(3, 1);
        x.weigh(1, 8);
        due.is("fill()", x.fill(), 2);
        due.is("count(6)", x.count(6), 2);
        x.weigh(1, 1);
        x.fill();
        x.remove(0);
        x.backend(4, 1);
        x.state(0, 0);
        due.is("fill(), the new one being down", x.fill(), 2);
        due.is("count(6), the new one being down", x.count(6), 0);
    }

    @Says(promise = 18, value = "moved from a number that one had that was up in it")
    static void movedToNone(Due due) {
        KeyShares x = new KeyShares();
        x.backend(1, 1);
        x.fill();
        x.state(0, 0);
        due.is("fill()", x.fill(), 101);
        due.is("count(6)", x.count(6), 0);
    }

    @Says(promise = 18, value = "slots that the latest fill() moved")
    static void movedStaysTillTheNextFill(Due due) {
        KeyShares x = new KeyShares();
        x.size(5);
        x.backend(2, 1);
        x.fill();
        x.backend(1, 1);
        x.fill();
        x.state(0, 0);
        x.remove(1);
        x.size(7);
        due.is("count(6)", x.count(6), 3);
        x.size(5);
        x.state(0, 1);
        x.fill();
        x.fill();
        due.is("count(6), nothing having moved", x.count(6), 0);
    }

    @Says(promise = 18, value = "slots that the latest fill() moved")
    static void movedStaysThroughARefusedFill(Due due) {
        KeyShares x = new KeyShares();
        x.size(5);
        x.backend(2, 1);
        x.fill();
        x.backend(1, 1);
        x.fill();
        x.size(2);
        due.is("fill()", x.fill(), NONE);
        due.is("count(6)", x.count(6), 3);
    }

    @Says(promise = 19, value = "0 when there is none such")
    static void keyWhenThereAreNone(Due due) {
        KeyShares x = new KeyShares();
        for (int i : new int[] {0, 1, -1, 299, 300, MIN, MAX}) {
            due.is("key(" + i + ")", x.key(i), 0);
        }
    }

    @Says(promise = 19, value = "0 when there is none such")
    static void keyBeforeTheFirstAndBehindTheLast(Due due) {
        KeyShares x = new KeyShares();
        x.backend(1, 1);
        Edges.come(x, 7, 8, 9);
        due.is("key(0)", x.key(0), 7);
        due.is("key(2)", x.key(2), 9);
        for (int i : new int[] {-1, 3, 4, 299, 300, 301, MIN, MAX}) {
            due.is("key(" + i + ")", x.key(i), 0);
        }
    }

    @Says(promise = 19, value = "0 when there is none such")
    static void keyOfTheMostKeys(Due due) {
        KeyShares x = new KeyShares();
        x.backend(1, 1);
        for (int key = 1; key <= 300; key++) {
            x.come(-key);
        }
        due.is("key(0)", x.key(0), -1);
        due.is("key(299)", x.key(299), -300);
        due.is("key(300)", x.key(300), 0);
        due.is("key(-1)", x.key(-1), 0);
    }

    @Says(promise = 19, value = "0 when there is none such")
    static void keyOfKeysThatWent(Due due) {
        KeyShares x = new KeyShares();
        x.backend(1, 1);
        Edges.come(x, 7, 8, 9);
        x.go(8);
        due.is("key(1)", x.key(1), 9);
        due.is("key(2)", x.key(2), 0);
        x.state(0, 0);
        due.is("key(0), none being up", x.key(0), 0);
    }

    @Says(promise = 19, value = "of those that have one")
    static void keyDoesNotTellThoseThatCameInVain(Due due) {
        KeyShares x = new KeyShares();
        x.come(5);
        x.backend(1, 1);
        x.come(6);
        due.is("key(0)", x.key(0), 6);
        due.is("key(1)", x.key(1), 0);
    }

    @Says(promise = 20, value = "if there was one at the latest fill()")
    static void checkWhenThereWasNone(Due due) {
        KeyShares x = new KeyShares();
        due.is("check(), a new object", x.check(), 1);
        x.fill();
        due.is("check(), filled with none", x.check(), 1);
        x.backend(1, 1);
        due.is("check(), one having come since", x.check(), 1);
        x.state(0, 0);
        x.fill();
        due.is("check(), filled with a down one", x.check(), 1);
        x.state(0, 1);
        due.is("check(), it being up since", x.check(), 1);
    }

    @Says(promise = 20, value = "Whether all slots have a backend")
    static void checkWhenTheTakersAreNoMore(Due due) {
        KeyShares x = new KeyShares();
        Edges.backends(x, 1, 2);
        x.fill();
        x.state(0, 0);
        due.is("check(), one being down", x.check(), 1);
        x.remove(0);
        x.remove(1);
        due.is("check(), none being there", x.check(), 1);
        x.size(2);
        due.is("check(), another size told", x.check(), 1);
    }

    @Says(promise = 20, value = "Whether all slots have a backend")
    static void checkOfTheLeastAndTheLargestTable(Due due) {
        KeyShares x = new KeyShares();
        x.backend(1, 8);
        x.size(2);
        x.fill();
        due.is("check(), 2 slots", x.check(), 1);
        Edges.fullOfBackends(x);
        x.size(997);
        x.fill();
        due.is("check(), 997 slots", x.check(), 1);
    }

    @Says(promise = 20, value = "loads are those of the keys: 1")
    static void checkOfTheMostKeys(Due due) {
        KeyShares x = new KeyShares();
        Edges.fullOfBackends(x);
        for (int key = 0; key < 301; key++) {
            x.come(key);
        }
        due.is("check(), 300 keys", x.check(), 1);
        for (int b = 0; b < 32; b++) {
            x.state(b, 0);
            due.is("check(), backends going down", x.check(), 1);
        }
        due.is("count(3)", x.count(3), 0);
    }

    @Says(promise = 20, value = "loads are those of the keys: 1")
    static void checkAfterRefusedCalls(Due due) {
        KeyShares x = new KeyShares();
        Edges.settle(x);
        x.go(99);
        x.come(1);
        x.state(0, 1);
        x.remove(31);
        x.backend(10, 1);
        due.is("check()", x.check(), 1);
    }
}
