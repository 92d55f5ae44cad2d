import java.io.IOException;

/** The boundaries that promises 12 to 15 name, a case for each. */
public final class KeyEdgesTest {
    private static final int NONE = Edges.NONE;
    private static final long[] KEYS = {0, 1, -1, Long.MIN_VALUE, Long.MAX_VALUE};

    private KeyEdgesTest() {
    }

    public static void main(String[] args) throws IOException {
        Edges.runAll(KeyEdgesTest.class, 12, 15);
    }

    @Says(promise = 12, value = "NONE when none is up")
    static void choiceWhenThereAreNone(Due due) {
        for (long key : KEYS) {
            due.is("choice(" + key + ")", new KeyShares().choice(key), NONE);
        }
    }

    @Says(promise = 12, value = "NONE when none is up")
    static void choiceWhenAllAreDown(Due due) {
        KeyShares x = new KeyShares();
        Edges.backends(x, 1, 2);
        x.state(0, 0);
        due.is("choice(5), one being up", x.choice(5), 1);
        x.state(1, 0);
        due.is("choice(5), none being up", x.choice(5), NONE);
        x.state(0, 1);
        due.is("choice(5), one being up again", x.choice(5), 0);
    }

    @Says(promise = 12, value = "NONE when none is up")
    static void choiceWhenAllAreRemoved(Due due) {
        KeyShares x = new KeyShares();
        Edges.backends(x, 1, 2);
        x.remove(0);
        due.is("choice(5), one being there", x.choice(5), 1);
        x.remove(1);
        due.is("choice(5), none being there", x.choice(5), NONE);
    }

    @Says(promise = 12, value = "A key's choice")
    static void choiceOfTheLeastScoreThatThereIs(Due due) {
        KeyShares x = new KeyShares();
        x.backend(6, 1);
        long key = Hashes.hash(6, 4) ^ -Hashes.STRIDE;
        due.is("best, being 0", x.best(key, 0), 0);
        due.is("choice", x.choice(key), 0);
    }

    @Says(promise = 12, value = "A key's choice")
    static void choiceHasNoBoundAndKeepsNoKeys(Due due) {
        long[] keys = Hashes.some(20, 1, k -> Hashes.prefers(k, 1, 2));
        KeyShares x = new KeyShares();
        x.slack(0);
        Edges.backends(x, 1, 2);
        Edges.come(x, keys);
        for (long key : keys) {
            due.is("choice(" + key + ")", x.choice(key), 0);
        }
        due.is("of(0, 2)", x.of(0, 2), 10);
        due.is("count(3)", x.count(3), 20);
    }

    @Says(promise = 12, value = "A key's choice")
    static void choiceOfTheMostBackends(Due due) {
        KeyShares x = new KeyShares();
        Edges.fullOfBackends(x);
        for (long key : KEYS) {
            int want = 0;
            for (int b = 1; b < 32; b++) {
                long best = Hashes.best(100 + b, 1 + b % 8, key);
                want = Long.compareUnsigned(best, Hashes.best(100 + want, 1 + want % 8, key)) > 0 ? b : want;
            }
            due.is("choice(" + key + ")", x.choice(key), want);
        }
    }

    @Says(promise = 13, value = "0 when there is none such")
    static void bestOfNoneSuch(Due due) {
        KeyShares x = new KeyShares();
        Edges.backends(x, 1, 2);
        for (int b : Edges.NO_BACKENDS) {
            due.is("best(5, " + b + ")", x.best(5, b), 0);
        }
        due.is("best(5, 2)", x.best(5, 2), 0);
    }

    @Says(promise = 13, value = "0 when there is none such")
    static void bestOfARemovedOne(Due due) {
        KeyShares x = new KeyShares();
        Edges.backends(x, 1, 2);
        x.remove(0);
        due.is("best(5, 0)", x.best(5, 0), 0);
        due.is("best(5, 1)", x.best(5, 1), Hashes.best(2, 1, 5));
    }

    @Says(promise = 13, value = "A backend's best for a key")
    static void bestOfADownOne(Due due) {
        KeyShares x = new KeyShares();
        x.backend(1, 3);
        x.state(0, 0);
        due.is("best(5, 0)", x.best(5, 0), Hashes.best(1, 3, 5));
    }

    @Says(promise = 13, value = "A backend's best for a key")
    static void bestByEachWeight(Due due) {
        KeyShares x = new KeyShares();
        x.backend(-1, 1);
        for (int weight = 1; weight <= 8; weight++) {
            x.weigh(0, weight);
            for (long key : KEYS) {
                due.is("best(" + key + ", 0), weight " + weight, x.best(key, 0), Hashes.best(-1, weight, key));
            }
        }
    }

    @Says(promise = 13, value = "A backend's best for a key")
    static void bestOfTheLastNumber(Due due) {
        KeyShares x = new KeyShares();
        Edges.fullOfBackends(x);
        due.is("best(5, 31)", x.best(5, 31), Hashes.best(131, 8, 5));
        due.is("best(5, 32)", x.best(5, 32), 0);
    }

    @Says(promise = 14, value = "NONE when none is up")
    static void comeWhenThereAreNone(Due due) {
        Edges.refused(due, x -> { }, x -> x.come(5), NONE);
    }

    @Says(promise = 14, value = "NONE when none is up")
    static void comeWhenAllAreDown(Due due) {
        Edges.refused(due, x -> {
            Edges.backends(x, 1, 2);
            Edges.come(x, 5);
            x.state(0, 0);
            x.state(1, 0);
        }, x -> x.come(5), NONE);
    }

    @Says(promise = 14, value = "NONE when none is up")
    static void comeWhenAllAreRemoved(Due due) {
        Edges.refused(due, x -> {
            x.backend(1, 1);
            x.remove(0);
        }, x -> x.come(5), NONE);
    }

    @Says(promise = 14, value = "NONE when none is up")
    static void aKeyThatCameInVainComesAnew(Due due) {
        KeyShares x = new KeyShares();
        due.is("come(5)", x.come(5), NONE);
        x.backend(1, 1);
        due.is("count(3)", x.count(3), 0);
        due.is("go(5)", x.go(5), NONE);
        due.is("come(5), one being up", x.come(5), 0);
    }

    @Says(promise = 14, value = "or there are 300 others")
    static void threeHundredOthers(Due due) {
        Edges.refused(due, KeyEdgesTest::fullOfKeys, x -> x.come(7000), NONE);
    }

    @Says(promise = 14, value = "or there are 300 others")
    static void aKeyThatIsThereAmongThreeHundred(Due due) {
        KeyShares x = new KeyShares();
        fullOfKeys(x);
        for (long key : new long[] {1000, 1001, 1150, 1298, 1299}) {
            due.is("come(" + key + ")", x.come(key), 0);
        }
        due.is("count(3)", x.count(3), 300);
    }

    @Says(promise = 14, value = "or there are 300 others")
    static void twoHundredAndNinetyNineOthers(Due due) {
        KeyShares x = new KeyShares();
        fullOfKeys(x);
        x.go(1000);
        due.is("come(7000)", x.come(7000), 0);
        due.is("come(1000), 300 others being there", x.come(1000), NONE);
        x.go(7000);
        due.is("come(1000)", x.come(1000), 0);
        due.is("key(299)", x.key(299), 1000);
    }

    private static void fullOfKeys(KeyShares x) {
        x.backend(1, 1);
        for (int key = 1000; key < 1300; key++) {
            x.come(key);
        }
    }

    @Says(promise = 14, value = "the backend it gets, or has")
    static void aKeyThatIsThereKeepsItsBackend(Due due) {
        long[] keys = Hashes.some(2, 1, k -> Hashes.prefers(k, 1, 2));
        KeyShares x = new KeyShares();
        x.slack(0);
        Edges.backends(x, 1, 2);
        Edges.come(x, keys);
        due.is("come, its choice having been full", x.come(keys[1]), 1);
        x.slack(300);
        due.is("come, its choice having room now", x.come(keys[1]), 1);
        due.is("count(3)", x.count(3), 2);
        due.is("key(1)", x.key(1), keys[1]);
        due.is("key(2)", x.key(2), 0);
    }

    @Says(promise = 14, value = "the backend it gets, or has")
    static void aKeyThatIsThereStaysAtItsPlace(Due due) {
        KeyShares x = new KeyShares();
        x.backend(1, 1);
        Edges.come(x, 7, 8, 9, 7);
        due.is("key(0)", x.key(0), 7);
        due.is("key(2)", x.key(2), 9);
    }

    @Says(promise = 14, value = "A key comes")
    static void anyLongIsAKey(Due due) {
        KeyShares x = new KeyShares();
        x.backend(1, 1);
        for (int i = 0; i < KEYS.length; i++) {
            due.is("come(" + KEYS[i] + ")", x.come(KEYS[i]), 0);
            due.is("key(" + i + ")", x.key(i), KEYS[i]);
            due.is("count(3)", x.count(3), i + 1);
        }
        due.is("come(2^32), the lower half being 0", x.come(1L << 32), 0);
        due.is("count(3)", x.count(3), KEYS.length + 1);
    }

    /** The rooms of those that are up are always for one more key in all: only 300 others refuse it. */
    @Says(promise = 14, value = "or there are 300 others")
    static void thereIsAlwaysRoomForOneMore(Due due) {
        KeyShares x = new KeyShares();
        x.slack(0);
        for (int b = 0; b < 7; b++) {
            x.backend(b, 1 + b);
        }
        for (int key = 0; key < 300; key++) {
            due.holds("come(" + key + ") gets one", x.come(key) != NONE);
        }
        due.is("come(300)", x.come(300), NONE);
        // 300 keys in 28 weights, rounded up.
        for (int b = 0; b < 7; b++) {
            due.holds("of(" + b + ", 2) is no more than its room", x.of(b, 2) <= (300 * (1 + b) + 27) / 28);
        }
    }

    @Says(promise = 15, value = "NONE when it had none")
    static void goWhenThereAreNoKeys(Due due) {
        for (long key : KEYS) {
            KeyShares x = new KeyShares();
            x.backend(1, 1);
            due.is("go(" + key + ")", x.go(key), NONE);
            due.is("count(3)", x.count(3), 0);
        }
    }

    @Says(promise = 15, value = "NONE when it had none")
    static void goOfAKeyThatNeverCame(Due due) {
        Edges.refused(due, Edges::settle, x -> x.go(0), NONE);
        Edges.refused(due, Edges::settle, x -> x.go(7), NONE);
        Edges.refused(due, Edges::settle, x -> x.go(1 + (1L << 32)), NONE);
    }

    @Says(promise = 15, value = "NONE when it had none")
    static void goTwice(Due due) {
        KeyShares x = new KeyShares();
        x.backend(1, 1);
        Edges.come(x, 1, 2);
        due.is("go(1)", x.go(1), 0);
        due.is("go(1) again", x.go(1), NONE);
        due.is("count(3)", x.count(3), 1);
        due.is("of(0, 2)", x.of(0, 2), 1);
    }

    @Says(promise = 15, value = "NONE when it had none")
    static void goOfAKeyThatCameInVain(Due due) {
        KeyShares x = new KeyShares();
        fullOfKeys(x);
        x.come(7000);
        due.is("go(7000)", x.go(7000), NONE);
        due.is("count(3)", x.count(3), 300);
    }

    @Says(promise = 15, value = "NONE when it had none")
    static void goOfAKeyWhoseBackendIsNoMore(Due due) {
        KeyShares x = new KeyShares();
        x.backend(1, 1);
        x.come(5);
        x.remove(0);
        due.is("go(5)", x.go(5), NONE);
    }

    @Says(promise = 15, value = "the backend it had")
    static void goOfAKeyThatMoved(Due due) {
        KeyShares x = new KeyShares();
        x.backend(1, 1);
        x.come(5);
        x.backend(2, 1);
        x.state(0, 0);
        due.is("go(5)", x.go(5), 1);
        due.is("of(1, 2)", x.of(1, 2), 0);
    }

    @Says(promise = 15, value = "A key goes")
    static void theFirstTheLastAndTheOnlyKeyGo(Due due) {
        KeyShares x = new KeyShares();
        x.backend(1, 1);
        Edges.come(x, 7, 8, 9);
        due.is("go(7), the first", x.go(7), 0);
        due.is("key(0)", x.key(0), 8);
        due.is("go(9), the last", x.go(9), 0);
        due.is("key(0)", x.key(0), 8);
        due.is("key(1)", x.key(1), 0);
        due.is("go(8), the only one", x.go(8), 0);
        due.is("key(0)", x.key(0), 0);
        due.is("count(3)", x.count(3), 0);
        due.is("of(0, 2)", x.of(0, 2), 0);
    }

    @Says(promise = 15, value = "A key goes")
    static void whenOneGoesAllOthersKeepTheirBackends(Due due) {
        KeyShares x = new KeyShares();
        x.slack(0);
        Edges.backends(x, 1, 2, 3);
        int[] owners = new int[30];
        for (int key = 0; key < owners.length; key++) {
            owners[key] = x.come(key);
        }
        for (int key = 0; key < 29; key++) {
            due.is("go(" + key + "), the first of those left", x.go(key), owners[key]);
            due.is("come(29), the last of all", x.come(29), owners[29]);
        }
    }

    @Says(promise = 15, value = "A key goes")
    static void aKeyThatWentComesAsTheLast(Due due) {
        KeyShares x = new KeyShares();
        x.backend(1, 1);
        Edges.come(x, 7, 8, 9);
        x.go(7);
        due.is("come(7)", x.come(7), 0);
        due.is("key(0)", x.key(0), 8);
        due.is("key(2)", x.key(2), 7);
    }

    /** Rooms are of fewer keys then: the one that is full for the next key is another one than before. */
    @Says(promise = 15, value = "A key goes")
    static void aKeyThatWentNoMoreTakesRoom(Due due) {
        long[] keys = Hashes.some(3, 1, k -> Hashes.prefers(k, 1, 2));
        KeyShares x = new KeyShares();
        x.slack(0);
        Edges.backends(x, 1, 2);
        Edges.come(x, keys[0], keys[1]);
        due.is("go of the one that the choice has", x.go(keys[0]), 0);
        due.is("come, of 2 keys, rooms of 1", x.come(keys[2]), 0);
        due.is("come, of 3 keys, rooms of 2", x.come(keys[0]), 0);
    }
}
