/** Promises 2, 3 and 5: generate, candidate, valid. The rows were found by a separate program. */
public final class MakingTest {
    /** p, q, seed, counter. */
    private static final long[][] MADE = {
        {2126623813, 22567, 10, 12},
        {1122421849, 26171, 14, 5},
        {1490982709, 31769, 38, 47},
        {1760129321, 21773, -6, 5},
        {1874418901, 23227, Long.MAX_VALUE, 14},
        {1984415929, 27737, 1095, 0},
        // The last counter there is.
        {1853395783, 31319, 25487, 63},
        // An earlier try is a prime, but below 1073741824.
        {1424218013, 30697, 741756, 44},
        {1721389183, 31379, 1114571, 19},
        {1666450087, 26647, 2680670, 17},
        // p and q near their least and their greatest.
        {1073743051, 23017, 2522248, 37},
        {2147444107, 19163, 277865, 37},
        {1613234123, 16411, 11011, 4},
        {1405718077, 32749, 13979, 5},
    };
    private static final long[] WITHOUT_ORDER = {0, 1, 9, 11, -1, -5, 1000000007, Long.MIN_VALUE};
    // For the last three a 65th try would be a prime.
    private static final long[] WITHOUT_FIELD = {5368, 6113, 6409, 13075, 11692, 17494, 28468};

    public static void main(String[] args) {
        Check check = new Check();
        DomainKeys keys = new DomainKeys();
        for (long[] made : MADE) {
            check.due("generate(" + made[2] + ")", () -> keys.generate(made[2]), made[3]);
            isCandidate(check, keys, made);
        }
        for (long[] made : MADE) {
            failuresKeepTheCandidate(check, made);
            isValid(check, made);
        }
        failedMakingIsNeverValid(check);
        failuresOfANewObject(check);
        makingLeavesDomainAndKeys(check);
        check.end();
    }

    private static void isCandidate(Check check, DomainKeys keys, long[] made) {
        for (int what = 0; what < 4; what++) {
            int asked = what;
            check.due("candidate(" + what + ") of seed " + made[2], () -> keys.candidate(asked), made[what]);
        }
        for (int what : new int[] {-1, 4, 5, Integer.MAX_VALUE, Integer.MIN_VALUE}) {
            check.due("candidate(" + what + ") of seed " + made[2], () -> keys.candidate(what), 0);
        }
    }

    private static void failuresKeepTheCandidate(Check check, long[] made) {
        DomainKeys keys = new DomainKeys();
        keys.generate(made[2]);
        for (long seed : WITHOUT_ORDER) {
            check.due("generate(" + seed + ")", () -> keys.generate(seed), DomainKeys.NO_ORDER);
        }
        isCandidate(check, keys, made);
        for (long seed : WITHOUT_FIELD) {
            check.due("generate(" + seed + ")", () -> keys.generate(seed), DomainKeys.NO_FIELD);
        }
        isCandidate(check, keys, made);
    }

    private static void isValid(Check check, long[] made) {
        DomainKeys keys = new DomainKeys();
        keys.generate(10);
        int p = (int) made[0];
        int q = (int) made[1];
        long seed = made[2];
        int counter = (int) made[3];
        check.due("valid of seed " + seed, () -> keys.valid(p, q, seed, counter), true);
        check.due("valid, p + 1", () -> keys.valid(p + 1, q, seed, counter), false);
        check.due("valid, p + 2 q", () -> keys.valid(p + 2 * q, q, seed, counter), false);
        check.due("valid, q + 2", () -> keys.valid(p, q + 2, seed, counter), false);
        // The try of this q is p as well.
        check.due("valid, q (p - 1) / 2", () -> keys.valid(p, (p - 1) / 2, seed, counter), false);
        check.due("valid, q 0", () -> keys.valid(p, 0, seed, counter), false);
        check.due("valid, -p", () -> keys.valid(-p, -q, seed, counter), false);
        check.due("valid, seed + 1", () -> keys.valid(p, q, seed + 1, counter), false);
        check.due("valid, counter + 1", () -> keys.valid(p, q, seed, counter + 1), false);
        check.due("valid, counter - 1", () -> keys.valid(p, q, seed, counter - 1), false);
        check.due("valid, counter + 64", () -> keys.valid(p, q, seed, counter + 64), false);
        isCandidate(check, keys, MADE[0]);
    }

    private static void failedMakingIsNeverValid(Check check) {
        for (long seed : WITHOUT_ORDER) {
            DomainKeys keys = new DomainKeys();
            int q = Reference.order(seed);
            for (int counter = -3; counter <= 64; counter++) {
                int asked = counter;
                int p = Reference.fieldTry(seed, q, counter);
                check.due("valid of seed " + seed + ", " + counter, () -> keys.valid(p, q, seed, asked), false);
            }
        }
        for (long seed : WITHOUT_FIELD) {
            DomainKeys keys = new DomainKeys();
            int q = Reference.order(seed);
            for (int counter = -3; counter <= 200; counter++) {
                int asked = counter;
                int p = Reference.fieldTry(seed, q, counter);
                check.due("valid of seed " + seed + ", " + counter, () -> keys.valid(p, q, seed, asked), false);
                check.due("valid(0, 0, " + seed + ", " + counter + ")",
                    () -> keys.valid(0, 0, seed, asked), false);
            }
        }
    }

    private static void failuresOfANewObject(Check check) {
        DomainKeys keys = new DomainKeys();
        keys.generate(0);
        keys.generate(5368);
        keys.valid(2126623813, 22567, 10, 12);
        for (int what = 0; what < 4; what++) {
            int asked = what;
            check.due("candidate(" + what + ") after failures alone", () -> keys.candidate(asked), 0);
        }
        check.thrown("generator(0) after failures alone",
            () -> keys.generator(0), IllegalStateException.class);
    }

    private static void makingLeavesDomainAndKeys(Check check) {
        DomainKeys keys = new DomainKeys();
        keys.adopt(23, 11, 4);
        keys.key(0, 3);
        keys.generate(10);
        check.due("domain(0) after generate", () -> keys.domain(0), 23);
        check.due("publicNumber(0) after generate", () -> keys.publicNumber(0), 18);
    }
}
