/** The edges of promise 11. */
public final class FitsEdgesTest {
    private static final int P = 2147483579;
    private static final int Q = 1073741789;

    public static void main(String[] args) {
        Check check = new Check();
        noDomain(check);
        leastAndGreatest(check);
        outside(check);
        anotherOrder(check);
        changesNothing(check);
        check.end();
    }

    private static void is(Check check, boolean want, int[] domain, int y) {
        DomainKeys keys = new DomainKeys();
        keys.adopt(domain[0], domain[1], domain[2]);
        check.due("fits(" + y + ") by " + domain[0], () -> keys.fits(y), want);
    }

    private static void noDomain(Check check) {
        check.sentence("Throws IllegalStateException when there is no domain");
        DomainKeys candidate = Fixture.withCandidate();
        for (int y : new int[] {2, 1, 0, -1, Integer.MIN_VALUE, Integer.MAX_VALUE}) {
            check.thrown("fits(" + y + ") of a new object",
                () -> new DomainKeys().fits(y), IllegalStateException.class);
            check.thrown("fits(" + y + "), a candidate alone",
                () -> candidate.fits(y), IllegalStateException.class);
        }
    }

    private static void leastAndGreatest(Check check) {
        check.sentence("Whether y is 2 .. p - 2");
        is(check, true, new int[] {7, 3, 4}, 2);
        is(check, true, new int[] {23, 11, 4}, 2);
        is(check, true, new int[] {11, 5, 3}, 9);
        is(check, true, new int[] {P, Q, 4}, P - 2);
        is(check, true, new int[] {P, Q, 4}, 3);
    }

    private static void outside(Check check) {
        check.sentence("Whether y is 2 .. p - 2");
        // 1, p + 1 and 1 - p to the power q have the remainder 1 by p, and so have 2 + p and 2 - p by 23.
        for (int y : new int[] {1, 24, -22, 25, -21, 0, -1, 22, 23, Integer.MIN_VALUE, Integer.MAX_VALUE}) {
            is(check, false, new int[] {23, 11, 4}, y);
        }
        for (int y : new int[] {1, P - 1, P, P + 1, 0, -1, 2 - P, Integer.MIN_VALUE, Integer.MAX_VALUE}) {
            is(check, false, new int[] {P, Q, 4}, y);
        }
        is(check, false, new int[] {7, 3, 2}, 6);
        is(check, false, new int[] {11, 5, 3}, 10);
        is(check, false, new int[] {2147483647, 3, 1513477735}, Integer.MAX_VALUE);
        is(check, false, new int[] {2147483647, 3, 1513477735}, Integer.MAX_VALUE - 1);
    }

    private static void anotherOrder(Check check) {
        check.sentence("and y to the power q has the remainder 1 by p");
        // p - 2 has another order here, and so has 2 by 11.
        is(check, false, new int[] {7, 3, 2}, 5);
        is(check, false, new int[] {23, 11, 4}, 21);
        is(check, false, new int[] {11, 5, 3}, 2);
        is(check, false, new int[] {P, Q, 4}, 2);
        is(check, false, new int[] {P, Q, 4}, P - 4);
        // By 31 the order of 2 is 5, that of 5 is 3.
        is(check, true, new int[] {31, 5, 2}, 2);
        is(check, false, new int[] {31, 5, 2}, 5);
        is(check, false, new int[] {31, 3, 5}, 2);
        is(check, true, new int[] {31, 3, 5}, 5);
    }

    private static void changesNothing(Check check) {
        check.sentence("Whether y is 2 .. p - 2 and y to the power q has the remainder 1 by p");
        DomainKeys keys = Fixture.withKeys();
        String before = Fixture.picture(keys);
        keys.fits(2);
        keys.fits(5);
        keys.fits(0);
        check.compare("what is seen after asking", Fixture.picture(keys), before);
    }
}
