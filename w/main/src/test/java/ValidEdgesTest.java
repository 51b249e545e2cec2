/** The edges of promise 5. The rows were found by a separate program. */
public final class ValidEdgesTest {
    public static void main(String[] args) {
        Check check = new Check();
        firstAndLastCounter(check);
        countersOutside(check);
        failuresAreNoCounters(check);
        numbersBesideTheMade(check);
        triesThatAreNotTaken(check);
        leastAndGreatestField(check);
        numbersAtTheEndsOfInt(check);
        candidateStays(check);
        check.end();
    }

    private static void is(Check check, boolean want, int p, int q, long seed, int counter) {
        DomainKeys keys = new DomainKeys();
        check.due("valid(" + p + ", " + q + ", " + seed + ", " + counter + ")",
            () -> keys.valid(p, q, seed, counter), want);
    }

    private static void firstAndLastCounter(Check check) {
        check.sentence("Whether making from the seed gives this counter (0 to 63)");
        is(check, true, 1984415929, 27737, 1095, 0);
        is(check, false, 1984415929, 27737, 1095, -1);
        is(check, false, 1984415929, 27737, 1095, 1);
        is(check, true, 1853395783, 31319, 25487, 63);
        is(check, false, 1853395783, 31319, 25487, 62);
        is(check, false, 1853395783, 31319, 25487, 64);
    }

    /** With -1 for the first two seeds, with 64 for the others the try is a prime. */
    private static void countersOutside(Check check) {
        check.sentence("Whether making from the seed gives this counter (0 to 63)");
        is(check, false, 1403758423, 21419, 44, -1);
        for (long seed : new long[] {44, 6519, 11692, 17494, 28468}) {
            int q = Reference.order(seed);
            is(check, false, Reference.fieldTry(seed, q, -1), q, seed, -1);
            is(check, false, Reference.fieldTry(seed, q, 64), q, seed, 64);
        }
    }

    private static void failuresAreNoCounters(Check check) {
        check.sentence("Whether making from the seed gives (and not: fails)");
        // 11 has no order, 5368 and 6519 no field.
        for (long seed : new long[] {11, 5368, 6519}) {
            int q = Reference.order(seed);
            for (int counter : new int[] {DomainKeys.NO_ORDER, DomainKeys.NO_FIELD, 0, 63}) {
                is(check, false, Reference.fieldTry(seed, q, counter), q, seed, counter);
                is(check, false, 0, q, seed, counter);
                is(check, false, 0, 0, seed, counter);
                is(check, false, -1, -1, seed, counter);
            }
        }
    }

    private static void numbersBesideTheMade(Check check) {
        check.sentence("this p, this q and this counter");
        is(check, true, 2126623813, 22567, 10, 12);
        is(check, false, 2126623812, 22567, 10, 12);
        is(check, false, 2126623814, 22567, 10, 12);
        is(check, false, 2126623813, 22566, 10, 12);
        is(check, false, 2126623813, 22568, 10, 12);
        is(check, false, 2126623813, 22567, 9, 12);
        is(check, false, 2126623813, 22567, 11, 12);
        is(check, false, 2126623813, 22567, 10, 11);
        is(check, false, 2126623813, 22567, 10, 13);
        // With this q the try would be the same.
        is(check, false, 2126623813, (2126623813 - 1) / 2, 10, 12);
        // The same low 32 bits make no same seed.
        is(check, false, 2126623813, 22567, 10 + (1L << 32), 12);
    }

    private static void triesThatAreNotTaken(Check check) {
        check.sentence("Whether making from the seed gives this p");
        // The next try is a prime too, but the making has ended before it.
        is(check, true, 1569216359, 22817, 17, 5);
        is(check, false, 1735826093, 22817, 17, 6);
        is(check, false, 1375105289, 20407, 164, 1);
        // An earlier try is a prime, but below 1073741824.
        is(check, true, 1906955849, 22717, 6814003227930703380L, 4);
        is(check, false, 1073741723, 22717, 6814003227930703380L, 1);
        is(check, false, 1073713723, 21773, 133752105, 53);
        // An earlier try is the square of 46261.
        is(check, true, 1806808673, 23131, -4298191792732219884L, 2);
        is(check, false, 2140080121, 23131, -4298191792732219884L, 0);
    }

    private static void leastAndGreatestField(Check check) {
        check.sentence("Whether making from the seed gives this p, this q");
        is(check, true, 1073742077, 20983, 2110657073067079188L, 2);
        is(check, true, 2147483033, 28627, -5479925654381908460L, 0);
        is(check, true, 1408720241, 16411, -807496872330954929L, 1);
        is(check, true, 1979480557, 32749, 7576884175095675011L, 0);
    }

    private static void numbersAtTheEndsOfInt(Check check) {
        check.sentence("Whether making from the seed gives this p, this q and this counter");
        for (int edge : new int[] {0, -1, Integer.MIN_VALUE, Integer.MAX_VALUE}) {
            is(check, false, edge, 22567, 10, 12);
            is(check, false, 2126623813, edge, 10, 12);
            is(check, false, 2126623813, 22567, 10, edge);
            is(check, false, edge, edge, 10, edge);
        }
        is(check, false, 2126623813, 22567, Long.MIN_VALUE, 12);
        is(check, false, 2126623813, 22567, Long.MAX_VALUE, 12);
        is(check, true, 1874418901, 23227, Long.MAX_VALUE, 14);
    }

    private static void candidateStays(Check check) {
        check.sentence("(The candidate stays.)");
        for (DomainKeys keys : new DomainKeys[] {new DomainKeys(), Fixture.withCandidate(), Fixture.withKeys()}) {
            String before = Fixture.picture(keys);
            check.due("valid of seed -6", () -> keys.valid(1760129321, 21773, -6, 5), true);
            check.due("valid of seed -6, p + 1", () -> keys.valid(1760129322, 21773, -6, 5), false);
            check.due("valid of seed 11", () -> keys.valid(0, 0, 11, -1), false);
            check.due("valid of seed 5368", () -> keys.valid(0, 0, 5368, -2), false);
            check.compare("what is seen after it", Fixture.picture(keys), before);
        }
    }
}
