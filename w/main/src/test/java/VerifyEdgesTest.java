/** The edges of promise 14 and of VERIFYING. The rows were found by a separate program. */
public final class VerifyEdgesTest {
    private static final int P = 2147483579;
    private static final int Q = 1073741789;

    public static void main(String[] args) {
        Check check = new Check();
        noDomain(check);
        leastAndGreatestY(check);
        yOutside(check);
        leastAndGreatestR(check);
        rOutside(check);
        leastAndGreatestS(check);
        sOutside(check);
        nothingIsTrueOutside(check);
        leastAndGreatestDigest(check);
        leastDomain(check);
        needsNoKeyAndChangesNothing(check);
        check.end();
    }

    private static void is(Check check, boolean want, int[] domain, int y, int r, int s) {
        DomainKeys keys = new DomainKeys();
        keys.adopt(domain[0], domain[1], domain[2]);
        check.due("verify(" + y + ", 0, " + r + ", " + s + ") by " + domain[0],
            () -> keys.verify(y, 0, r, s), want);
    }

    private static void great(Check check, boolean want, int y, int r, int s) {
        is(check, want, new int[] {P, Q, 4}, y, r, s);
    }

    private static void small(Check check, boolean want, int y, int r, int s) {
        is(check, want, new int[] {23, 11, 4}, y, r, s);
    }

    private static void noDomain(Check check) {
        check.sentence("Throws IllegalStateException when there is no domain");
        for (DomainKeys keys : new DomainKeys[] {new DomainKeys(), Fixture.withCandidate()}) {
            check.thrown("verify(18, 0, 4, 1)", () -> keys.verify(18, 0, 4, 1), IllegalStateException.class);
            check.thrown("verify(0, 0, 0, 0)", () -> keys.verify(0, 0, 0, 0), IllegalStateException.class);
            check.thrown("verify(-1, 0, -1, -1)", () -> keys.verify(-1, 0, -1, -1), IllegalStateException.class);
        }
    }

    private static void leastAndGreatestY(Check check) {
        check.sentence("false when y is not 1 .. p - 1");
        small(check, true, 1, 1, 1);
        small(check, true, 22, 1, 2);
        great(check, true, 1, 572152354, 1);
        great(check, true, 1, 869711359, 2);
        great(check, true, P - 1, 572152354, 1);
        great(check, true, P - 1, 869711359, 2);
        // A y that is no power of g is taken as it is.
        small(check, true, 5, 2, 1);
    }

    private static void yOutside(Check check) {
        check.sentence("false when y is not 1 .. p - 1");
        small(check, true, 18, 4, 1);
        // These have the remainder 18, 1 or 22 by 23.
        small(check, false, 18 + 23, 4, 1);
        small(check, false, 18 - 23, 4, 1);
        small(check, false, 24, 1, 1);
        small(check, false, -22, 1, 1);
        small(check, false, -1, 1, 2);
        great(check, false, P + 1, 572152354, 1);
        great(check, false, 1 - P, 572152354, 1);
        great(check, false, -1, 572152354, 1);
        for (int y : new int[] {0, 23, Integer.MIN_VALUE, Integer.MAX_VALUE}) {
            for (int r = 1; r <= 10; r++) {
                small(check, false, y, r, 1);
            }
        }
        great(check, false, 0, 1, 1);
        great(check, false, P, 1, 1);
    }

    private static void leastAndGreatestR(Check check) {
        check.sentence("false when r is not 1 .. q - 1");
        great(check, true, 381315793, 1, 1);
        great(check, true, 1264399686, 1, 1);
        great(check, true, 752384154, Q - 1, Q - 1);
        great(check, true, 1003178872, Q - 1, Q - 1);
        great(check, true, 1018907348, Q - 1, Q - 2);
        great(check, false, 381315793, 2, 1);
        great(check, false, 752384154, Q - 2, Q - 1);
        small(check, true, 1, 1, 1);
        small(check, true, 10, 10, 10);
        is(check, true, new int[] {11, 5, 3}, 9, 4, 1);
    }

    private static void rOutside(Check check) {
        check.sentence("false when r is not 1 .. q - 1");
        // By 11 the power a of 3 is 5 with s 2, and 5 has the remainder 0 by 5.
        is(check, false, new int[] {11, 5, 3}, 1, 0, 2);
        is(check, false, new int[] {11, 5, 3}, 3, 0, 2);
        is(check, false, new int[] {11, 5, 3}, 3, 5, 2);
        // These have the remainder 4 by 11, with which the signature is one.
        small(check, false, 18, 4 + 11, 1);
        small(check, false, 18, 4 - 11, 1);
        for (int r : new int[] {0, 11, -1, Integer.MIN_VALUE, Integer.MAX_VALUE}) {
            for (int s = 1; s <= 10; s++) {
                small(check, false, 18, r, s);
            }
        }
        for (int r : new int[] {0, Q, Q + 1, -1, Integer.MIN_VALUE, Integer.MAX_VALUE}) {
            great(check, false, 381315793, r, 1);
        }
    }

    private static void leastAndGreatestS(Check check) {
        check.sentence("false when s is not 1 .. q - 1");
        great(check, true, 1809725430, Q - 2, 1);
        great(check, true, 293797004, 2, Q - 1);
        great(check, false, 1809725430, Q - 2, 2);
        great(check, false, 293797004, 2, Q - 2);
        // With the secret 3, whose y is 18, the numbers k 1 and 6 give these.
        small(check, true, 18, 4, 1);
        small(check, true, 18, 2, 1);
        small(check, true, 9, 4, 10);
    }

    private static void sOutside(Check check) {
        check.sentence("false when s is not 1 .. q - 1");
        // With a w of 0 both powers were 1, so that an r of 1 would hold.
        for (int s : new int[] {0, 11, -11, 22}) {
            small(check, false, 18, 1, s);
            small(check, false, 1, 1, s);
        }
        great(check, false, 381315793, 1, 0);
        great(check, false, 381315793, 1, Q);
        // These have the remainder 1, with which the signature is one.
        small(check, false, 18, 4, 12);
        small(check, false, 18, 4, -10);
        great(check, false, 381315793, 1, Q + 1);
        great(check, false, 381315793, 1, 1 - Q);
        for (int s : new int[] {-1, Integer.MIN_VALUE, Integer.MAX_VALUE}) {
            for (int r = 1; r <= 10; r++) {
                small(check, false, 18, r, s);
            }
        }
    }

    private static void nothingIsTrueOutside(Check check) {
        check.sentence("false when y is not 1 .. p - 1, or r or s is not 1 .. q - 1");
        int[] numbers = {Integer.MIN_VALUE, -1, 0, 1, 2, 3, 4, 5, 6, 7, 8, Integer.MAX_VALUE};
        for (int y : numbers) {
            DomainKeys keys = new DomainKeys();
            keys.adopt(7, 3, 2);
            for (int r : numbers) {
                for (int s : numbers) {
                    boolean inside = y >= 1 && y <= 6 && r >= 1 && r <= 2 && s >= 1 && s <= 2;
                    if (!inside) {
                        check.due("verify(" + y + ", 0, " + r + ", " + s + ") by 7",
                            () -> keys.verify(y, 0, r, s), false);
                    }
                }
            }
        }
    }

    private static void leastAndGreatestDigest(Check check) {
        check.sentence("a and b the remainders by q of z * w and r * w");
        long zero = -6179701661250746530L;
        long greatest = 6683971088114980557L;
        DomainKeys keys = new DomainKeys();
        keys.adopt(P, Q, 4);
        // Signed with the secret 1 and k 1: r is 4, s is z + 4.
        check.due("verify with z 0", () -> keys.verify(4, zero, 4, 4), true);
        check.due("verify with z 0, s 5", () -> keys.verify(4, zero, 4, 5), false);
        check.due("verify with z 32767", () -> keys.verify(4, greatest, 4, 32771), true);
        check.due("verify with z 32767, s 4", () -> keys.verify(4, greatest, 4, 4), false);
    }

    /** Each y, r and s inside of the ranges, by 7 and by 11. */
    private static void leastDomain(Check check) {
        check.sentence("whether r is the remainder by q of what g^a * y^b has as its remainder by p");
        for (int[] domain : new int[][] {{7, 3, 2}, {7, 3, 4}, {11, 5, 3}}) {
            for (int y = 1; y < domain[0]; y++) {
                for (int r = 1; r < domain[1]; r++) {
                    for (int s = 1; s < domain[1]; s++) {
                        is(check, Reference.verify(domain[0], domain[1], domain[2], new long[] {y, 0, r, s}),
                            domain, y, r, s);
                    }
                }
            }
        }
    }

    private static void needsNoKeyAndChangesNothing(Check check) {
        check.sentence("VERIFYING r and s for a public number y and a message");
        for (DomainKeys keys : new DomainKeys[] {Fixture.withDomain(), Fixture.withKeys()}) {
            String before = Fixture.picture(keys);
            check.due("verify(18, 0, 4, 1)", () -> keys.verify(18, 0, 4, 1), true);
            check.due("verify(18, 0, 4, 2)", () -> keys.verify(18, 0, 4, 2), false);
            check.due("verify(0, 0, 0, 0)", () -> keys.verify(0, 0, 0, 0), false);
            check.compare("what is seen after it", Fixture.picture(keys), before);
        }
    }
}
