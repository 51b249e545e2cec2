import java.util.NoSuchElementException;

/** Promises 12 to 14: digest, sign, verify. The rows were found by a separate program. */
public final class SigningTest {
    private static final int P = 2147483579;
    private static final int Q = 1073741789;

    /** Signatures by the secret 3 of 23, 11, 4: a row for each message 0 .. 5, r and s for each k 1 .. 10. */
    private static final int[][] SMALL = {
        {4, 1, 5, 2, 7, 7, 3, 5, 1, 5, 2, 1, 8, 5, 9, 2, 2, 8, 6, 4},
        {4, 7, 5, 5, 7, 9, 3, 1, 1, 4, 2, 2, 8, 9, 9, 0, 2, 5, 6, 9},
        {4, 4, 5, 9, 7, 8, 3, 3, 1, 10, 2, 7, 8, 7, 9, 1, 2, 1, 6, 1},
        {4, 6, 5, 10, 7, 5, 3, 9, 1, 6, 2, 0, 8, 1, 9, 4, 2, 0, 6, 10},
        {4, 0, 5, 7, 7, 3, 3, 2, 1, 7, 2, 10, 8, 8, 9, 6, 2, 3, 6, 5},
        {4, 3, 5, 3, 7, 4, 3, 0, 1, 1, 2, 5, 8, 10, 9, 5, 2, 7, 6, 2},
    };

    /** x, k, message, y, r, s. */
    private static final long[][] LARGE = {
        {Q - 1, Q - 1, 0, 536870895, 536870895, 536839534},
        {Q - 1, Q - 2, -1, 536870895, 671088619, 872404582},
        {Q - 2, 123456789, 77, 1744830408, 436533508, 86821615},
        {1, 1, 5, 4, 4, 2470},
    };

    /** message, digest. */
    private static final long[][] DIGESTS = {
        {0, 31361}, {1, 25130}, {2, 12576}, {-1, 21244}, {12345678901234567L, 28998},
        {Long.MAX_VALUE, 28944}, {Long.MIN_VALUE, 6293}, {387, 32767}, {1093, 0},
    };

    public static void main(String[] args) {
        Check check = new Check();
        DomainKeys fresh = new DomainKeys();
        for (long[] row : DIGESTS) {
            check.due("digest(" + row[0] + ")", () -> fresh.digest(row[0]), row[1]);
        }
        smallSignatures(check);
        largeSignatures(check);
        remainderOfZero(check);
        wrongSigning(check);
        wrongVerifying(check);
        everyVerifyOfASmallDomain(check);
        check.end();
    }

    private static void smallSignatures(Check check) {
        DomainKeys keys = new DomainKeys();
        keys.adopt(23, 11, 4);
        keys.key(5, 3);
        for (int message = 0; message < SMALL.length; message++) {
            for (int k = 1; k <= 10; k++) {
                int m = message;
                int number = k;
                int r = SMALL[m][2 * k - 2];
                int s = SMALL[m][2 * k - 1];
                String call = "sign(5, " + m + ", " + k + ")";
                if (s == 0) {
                    check.thrown(call, () -> keys.sign(5, m, number), ArithmeticException.class);
                } else {
                    check.due(call, () -> keys.sign(5, m, number), r * 4294967296L + s);
                }
                check.due("verify of " + call, () -> keys.verify(18, m, r, s), s != 0);
            }
        }
        check.due("publicNumber(5) after signing", () -> keys.publicNumber(5), 18);
    }

    private static void largeSignatures(Check check) {
        DomainKeys keys = new DomainKeys();
        keys.adopt(P, Q, 4);
        for (long[] row : LARGE) {
            int r = (int) row[4];
            int s = (int) row[5];
            int y = (int) row[3];
            keys.key(0, (int) row[0]);
            check.due("sign with " + row[0], () -> keys.sign(0, row[2], (int) row[1]), (row[4] << 32) + row[5]);
            check.due("verify with " + row[0], () -> keys.verify(y, row[2], r, s), true);
            check.due("verify, r + 1", () -> keys.verify(y, row[2], r + 1, s), false);
            check.due("verify, s + 1", () -> keys.verify(y, row[2], r, s + 1), false);
            check.due("verify, y + 1", () -> keys.verify(y + 1, row[2], r, s), false);
            check.due("verify, message + 1", () -> keys.verify(y, row[2] + 1, r, s), false);
        }
    }

    /** In 11, 5, 3 the power 3 is 5, so r is 0 whatever the message is. */
    private static void remainderOfZero(Check check) {
        DomainKeys keys = new DomainKeys();
        keys.adopt(11, 5, 3);
        keys.key(0, 2);
        for (long message = 0; message < 20; message++) {
            long asked = message;
            check.thrown("sign(0, " + message + ", 3), r is 0",
                () -> keys.sign(0, asked, 3), ArithmeticException.class);
        }
        check.due("publicNumber(0) after r was 0", () -> keys.publicNumber(0), 9);
        keys.adopt(1019, 509, 4);
        keys.key(7, 255);
        check.thrown("sign(7, 0, 254), r is 0", () -> keys.sign(7, 0, 254), ArithmeticException.class);
    }

    private static void wrongSigning(Check check) {
        DomainKeys keys = new DomainKeys();
        check.thrown("sign(0, 1, 0), no domain", () -> keys.sign(0, 1, 0), NoSuchElementException.class);
        keys.adopt(23, 11, 4);
        check.thrown("sign(0, 1, 0), no key", () -> keys.sign(0, 1, 0), NoSuchElementException.class);
        keys.key(0, 3);
        for (int slot : new int[] {-1, 1, 7, 8, Integer.MAX_VALUE, Integer.MIN_VALUE}) {
            check.thrown("sign(" + slot + ", 1, 1)", () -> keys.sign(slot, 1, 1), NoSuchElementException.class);
            check.thrown("sign(" + slot + ", 1, 0)", () -> keys.sign(slot, 1, 0), NoSuchElementException.class);
        }
        for (int k : new int[] {0, -1, 11, 12, 22, Integer.MAX_VALUE, Integer.MIN_VALUE}) {
            check.thrown("sign(0, 1, " + k + ")", () -> keys.sign(0, 1, k), IllegalArgumentException.class);
        }
    }

    private static void wrongVerifying(Check check) {
        DomainKeys keys = new DomainKeys();
        check.thrown("verify, no domain", () -> keys.verify(0, 0, 0, 0), IllegalStateException.class);
        keys.adopt(23, 11, 4);
        check.due("verify without keys", () -> keys.verify(18, 0, 4, 1), true);
        // Each of these has the remainders of a signature that verifies.
        for (int y : new int[] {18 + 23, 18 - 23, 0, -1, 23, Integer.MAX_VALUE, Integer.MIN_VALUE}) {
            check.due("verify, y " + y, () -> keys.verify(y, 0, 4, 1), false);
        }
        for (int r : new int[] {4 + 11, 4 - 11, 0, -1, 11, Integer.MAX_VALUE, Integer.MIN_VALUE}) {
            check.due("verify, r " + r, () -> keys.verify(18, 0, r, 1), false);
        }
        for (int s : new int[] {1 + 11, 1 - 11, 0, -1, 11, Integer.MAX_VALUE, Integer.MIN_VALUE}) {
            check.due("verify, s " + s, () -> keys.verify(18, 0, 4, s), false);
        }
        check.due("verify, y 1", () -> keys.verify(1, 0, 1, 1), true);
        check.due("verify, y 22", () -> keys.verify(22, 0, 1, 2), true);
        check.due("verify, y 22, odd power", () -> keys.verify(22, 0, 1, 1), false);
        check.due("verify, y 5", () -> keys.verify(5, 0, 2, 1), true);
    }

    private static void everyVerifyOfASmallDomain(Check check) {
        for (int y = -1; y <= 12; y++) {
            DomainKeys keys = new DomainKeys();
            keys.adopt(11, 5, 3);
            for (int r = -1; r <= 6; r++) {
                for (int s = -1; s <= 6; s++) {
                    for (long message = 0; message < 4; message++) {
                        int numberY = y;
                        int numberR = r;
                        int numberS = s;
                        long m = message;
                        check.due("verify(" + y + ", " + m + ", " + r + ", " + s + ") by 11",
                            () -> keys.verify(numberY, m, numberR, numberS),
                            Reference.verify(11, 5, 3, new long[] {y, m, r, s}));
                    }
                }
            }
        }
    }
}
