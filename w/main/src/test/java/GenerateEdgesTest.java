/** The edges of promise 2 and of MAKING. The rows were found by a separate program. */
public final class GenerateEdgesTest {
    public static void main(String[] args) {
        Check check = new Check();
        orderAtItsEnds(check);
        orderThatIsNoPrime(check);
        leastAndGreatestX(check);
        leastAndGreatestRemainder(check);
        countersFromNoneBeforeZero(check);
        countersToSixtyThree(check);
        tryBelowTheFloor(check);
        tryAboveTheFloor(check);
        tryThatIsNoPrime(check);
        endsWithTheFirstCounter(check);
        seedsAtTheEndsOfLong(check);
        becomesTheCandidate(check);
        noOrderKeepsTheCandidate(check);
        noFieldKeepsTheCandidate(check);
        leavesDomainAndKeys(check);
        check.end();
    }

    private static void makes(Check check, long p, long q, long seed, long counter) {
        DomainKeys keys = new DomainKeys();
        check.due("generate(" + seed + ")", () -> keys.generate(seed), counter);
        isCandidate(check, keys, p, q, seed, counter);
    }

    private static void isCandidate(Check check, DomainKeys keys, long p, long q, long seed, long counter) {
        check.due("candidate(0) of seed " + seed, () -> keys.candidate(0), p);
        check.due("candidate(1) of seed " + seed, () -> keys.candidate(1), q);
        check.due("candidate(2) of seed " + seed, () -> keys.candidate(2), seed);
        check.due("candidate(3) of seed " + seed, () -> keys.candidate(3), counter);
    }

    private static void fails(Check check, long seed, int want) {
        DomainKeys keys = new DomainKeys();
        check.due("generate(" + seed + ")", () -> keys.generate(seed), want);
        isCandidate(check, keys, 0, 0, 0, 0);
        check.thrown("generator(0) after generate(" + seed + ")",
            () -> keys.generator(0), IllegalStateException.class);
    }

    /** The H of these seeds are the first and the last with which q is 16411 or 32749, and their neighbours. */
    private static void orderAtItsEnds(Check check) {
        check.sentence("q is 16385 + 2 * (H(seed, 0) >>> 51)");
        fails(check, -5642467574178029548L, DomainKeys.NO_ORDER);
        makes(check, 1408720241, 16411, -807496872330954929L, 1);
        makes(check, 1501606501, 16411, -6842165749429526245L, 8);
        fails(check, 8944963522523379272L, DomainKeys.NO_ORDER);
        fails(check, 6653471352514791593L, DomainKeys.NO_ORDER);
        makes(check, 1979480557, 32749, 7576884175095675011L, 0);
        makes(check, 1720239473, 32749, -8112568396202721654L, 6);
        fails(check, -4078002591608684105L, DomainKeys.NO_ORDER);
    }

    private static void orderThatIsNoPrime(Check check) {
        check.sentence("If q is not a prime, the seed has NO ORDER");
        // The least q and the greatest, 16385 and 32767: here H is 0, the last with this q, the first, and -1.
        long[] ends = {1442695040888963407L, -4828053323020396773L, 7875099670967662959L, -7022678945461399490L};
        // The squares of 131, 137, 139, 149, 151, 157, 163, 167, 173, 179 and 181.
        long[] squares = {5089, 2933, 13841, 8952, 1169, 2927, 7536, 8531, 4077, 19190, 9092};
        for (long seed : ends) {
            fails(check, seed, DomainKeys.NO_ORDER);
        }
        for (long seed : squares) {
            fails(check, seed, DomainKeys.NO_ORDER);
        }
    }

    private static void leastAndGreatestX(Check check) {
        check.sentence("X is 1073741824 + (H(seed, 1 + counter) >>> 34)");
        // With the counters 0 and 2 X is 1073741824, and its try is a prime below it.
        makes(check, 1980833383, 32587, 6074646282210467348L, 7);
        makes(check, 1092600857, 23633, -4152102922268748268L, 17);
        // X is 2147483647.
        makes(check, 2147483033, 28627, -195764504381198828L, 0);
        makes(check, 2147482877, 29173, 6414024917671425556L, 0);
    }

    private static void leastAndGreatestRemainder(Check check) {
        check.sentence("the TRY is X less the remainder of X by 2 q, plus 1");
        // The remainder is 0.
        makes(check, 1432686779, 18191, 20368, 2);
        makes(check, 2087844667, 25357, 40449, 8);
        // The remainder is 2 q - 1.
        makes(check, 1731146903, 18787, 133485, 4);
        makes(check, 1097929163, 17881, 450047, 5);
    }

    private static void countersFromNoneBeforeZero(Check check) {
        check.sentence("for each COUNTER from 0");
        makes(check, 1984415929, 27737, 1095, 0);
        // The try of a counter -1 would be a prime.
        makes(check, 1534328647, 21419, 44, 24);
        fails(check, 6519, DomainKeys.NO_FIELD);
    }

    private static void countersToSixtyThree(Check check) {
        check.sentence("to 63. If none is, the seed has NO FIELD");
        makes(check, 1853395783, 31319, 25487, 63);
        // The try of a counter 64 would be a prime.
        for (long seed : new long[] {11692, 17494, 28468}) {
            fails(check, seed, DomainKeys.NO_FIELD);
        }
    }

    private static void tryBelowTheFloor(Check check) {
        check.sentence("when the try is above 1073741824");
        // No seed has a try that is a prime nearer below: 1073741723, with the counters 1 and 5.
        makes(check, 1906955849, 22717, 6814003227930703380L, 4);
        makes(check, 1944759571, 23633, -8315521347366259180L, 26);
        // The one try that is a prime is 1073713723.
        fails(check, 133752105, DomainKeys.NO_FIELD);
    }

    private static void tryAboveTheFloor(Check check) {
        check.sentence("when the try is above 1073741824");
        // No seed has a p nearer above, and none a greater one than the last.
        makes(check, 1073742077, 20983, 2110657073067079188L, 2);
        makes(check, 1073742113, 19961, -5865801996611604487L, 1);
        makes(check, 2147483033, 28627, -5479925654381908460L, 0);
    }

    private static void tryThatIsNoPrime(Check check) {
        check.sentence("and a prime, it is p");
        // With the counter 0 the try is the square of 46261, of 46199, of 32833.
        makes(check, 1806808673, 23131, -4298191792732219884L, 2);
        makes(check, 1227249871, 23099, -6436515692063529452L, 1);
        makes(check, 1911234307, 16417, 151908504840250900L, 5);
    }

    private static void endsWithTheFirstCounter(Check check) {
        check.sentence("the making ends with this counter");
        // The next try would be a prime too.
        makes(check, 1569216359, 22817, 17, 5);
        makes(check, 1541748851, 20407, 164, 0);
    }

    private static void seedsAtTheEndsOfLong(Check check) {
        check.sentence("MAKES from a seed (a long)");
        fails(check, 0, DomainKeys.NO_ORDER);
        fails(check, -1, DomainKeys.NO_ORDER);
        fails(check, Long.MIN_VALUE, DomainKeys.NO_ORDER);
        makes(check, 1874418901, 23227, Long.MAX_VALUE, 14);
    }

    private static void becomesTheCandidate(Check check) {
        check.sentence("what was made becomes the candidate");
        DomainKeys keys = Fixture.withCandidate();
        isCandidate(check, keys, 2126623813, 22567, 10, 12);
        check.due("generate(1095)", () -> keys.generate(1095), 0);
        isCandidate(check, keys, 1984415929, 27737, 1095, 0);
        check.due("generate(-6)", () -> keys.generate(-6), 5);
        isCandidate(check, keys, 1760129321, 21773, -6, 5);
        check.due("generate(-6) again", () -> keys.generate(-6), 5);
        isCandidate(check, keys, 1760129321, 21773, -6, 5);
    }

    private static void noOrderKeepsTheCandidate(Check check) {
        check.sentence("Answers NO_ORDER, and then the candidate stays");
        DomainKeys keys = Fixture.withKeys();
        String before = Fixture.picture(keys);
        check.due("generate(11)", () -> keys.generate(11), -1);
        check.compare("what is seen after it", Fixture.picture(keys), before);
    }

    private static void noFieldKeepsTheCandidate(Check check) {
        check.sentence("Answers NO_FIELD, and then the candidate stays");
        DomainKeys keys = Fixture.withKeys();
        String before = Fixture.picture(keys);
        check.due("generate(5368)", () -> keys.generate(5368), -2);
        check.compare("what is seen after it", Fixture.picture(keys), before);
    }

    private static void leavesDomainAndKeys(Check check) {
        check.sentence("what was made becomes the candidate (and the domain and the keys stay)");
        DomainKeys keys = Fixture.withKeys();
        check.due("generate(14)", () -> keys.generate(14), 5);
        check.due("generate(10)", () -> keys.generate(10), 12);
        check.compare("what is seen after it", Fixture.picture(keys), Fixture.picture(Fixture.withKeys()));
    }
}
