import java.util.NoSuchElementException;

/** The edges of promise 13 and of SIGNING. The rows were found by a separate program. */
public final class SignEdgesTest {
    private static final int P = 2147483579;
    private static final int Q = 1073741789;
    // 4 to these powers has the remainders q and p - 2 by p.
    private static final int K_OF_NO_R = 536870894;
    private static final int K_OF_GREATEST_R = 536870895;

    public static void main(String[] args) {
        Check check = new Check();
        slotWithoutKey(check);
        slotOutside(check);
        firstAndLastSlot(check);
        leastAndGreatestK(check);
        kOutside(check);
        greatestR(check);
        leastAndGreatestS(check);
        noneWhenRIsZero(check);
        noneWhenSIsZero(check);
        leastAndGreatestDigest(check);
        leastDomain(check);
        changesNothing(check);
        check.end();
    }

    private static long signature(long r, long s) {
        return r * 4294967296L + s;
    }

    private static DomainKeys great(int x) {
        DomainKeys keys = new DomainKeys();
        keys.adopt(P, Q, 4);
        keys.key(0, x);
        return keys;
    }

    private static void slotWithoutKey(Check check) {
        check.sentence("NoSuchElementException when the slot has no key");
        for (DomainKeys keys : new DomainKeys[] {new DomainKeys(), Fixture.withCandidate(), Fixture.withDomain()}) {
            for (int slot = 0; slot < 8; slot++) {
                int asked = slot;
                check.thrown("sign(" + slot + ", 0, 1)",
                    () -> keys.sign(asked, 0, 1), NoSuchElementException.class);
            }
        }
        DomainKeys keys = Fixture.withKeys();
        for (int slot : new int[] {1, 2, 4, 5, 6}) {
            check.thrown("sign(" + slot + ", 0, 1)", () -> keys.sign(slot, 0, 1), NoSuchElementException.class);
        }
    }

    private static void slotOutside(Check check) {
        check.sentence("NoSuchElementException when there is none such");
        DomainKeys keys = Fixture.withKeys();
        for (int slot : Fixture.outside(0, 7)) {
            check.thrown("sign(" + slot + ", 0, 1)", () -> keys.sign(slot, 0, 1), NoSuchElementException.class);
        }
    }

    private static void firstAndLastSlot(Check check) {
        check.sentence("SIGNS a message with the slot's secret");
        DomainKeys keys = Fixture.withDomain();
        // z is 0 by 11: s is x * 4 for each x.
        int[] s = {4, 8, 1, 5, 9, 2, 6, 10};
        for (int slot = 0; slot < 8; slot++) {
            keys.key(slot, slot + 1);
        }
        for (int slot = 0; slot < 8; slot++) {
            int asked = slot;
            check.due("sign(" + slot + ", 0, 1)", () -> keys.sign(asked, 0, 1), signature(4, s[slot]));
        }
    }

    private static void leastAndGreatestK(Check check) {
        check.sentence("a number k (1 .. q - 1)");
        DomainKeys keys = Fixture.withKeys();
        check.due("sign(0, 0, 1)", () -> keys.sign(0, 0, 1), signature(4, 1));
        check.due("sign(0, 0, 10)", () -> keys.sign(0, 0, 10), signature(6, 4));
        check.due("sign with k 1, great q", () -> great(1).sign(0, 0, 1), signature(4, 31365));
        check.due("sign with k q - 1, great q",
            () -> great(1).sign(0, 0, Q - 1), signature(536870895, 536839533));
        check.due("sign with k and x q - 1",
            () -> great(Q - 1).sign(0, 0, Q - 1), signature(536870895, 536839534));
    }

    private static void kOutside(Check check) {
        check.sentence("IllegalArgumentException when k is not 1 .. q - 1");
        DomainKeys keys = Fixture.withKeys();
        // 12 and -10 have the remainder 1 by 11, with which there is a signature.
        for (int k : new int[] {0, 11, -1, 12, -10, 22, Integer.MIN_VALUE, Integer.MAX_VALUE}) {
            check.thrown("sign(0, 0, " + k + ")", () -> keys.sign(0, 0, k), IllegalArgumentException.class);
        }
        for (int k : new int[] {0, Q, Q + 1, -1, Integer.MIN_VALUE, Integer.MAX_VALUE}) {
            check.thrown("sign(0, 0, " + k + "), great q",
                () -> great(1).sign(0, 0, k), IllegalArgumentException.class);
        }
    }

    private static void greatestR(Check check) {
        check.sentence("r is the remainder by q of what g to the power k has as its remainder by p");
        // Secret and r are both q - 1, so their product is the greatest there is.
        check.due("sign with r q - 1",
            () -> great(Q - 1).sign(0, 0, K_OF_GREATEST_R), signature(Q - 1, 62724));
        // By 11 the power 2 of 3 is 9, which has the remainder 4 by 5; z is 1.
        DomainKeys keys = new DomainKeys();
        keys.adopt(11, 5, 3);
        keys.key(0, 2);
        check.due("sign(0, 0, 2)", () -> keys.sign(0, 0, 2), signature(4, 2));
    }

    private static void leastAndGreatestS(Check check) {
        check.sentence("s is the number 0 .. q - 1 for which k * s and z + x * r have the same remainder");
        check.due("sign with s 1",
            () -> great(536902255).sign(0, 0, K_OF_GREATEST_R), signature(Q - 1, 1));
        check.due("sign with s q - 1",
            () -> great(536902256).sign(0, 0, K_OF_GREATEST_R), signature(Q - 1, Q - 1));
        DomainKeys keys = Fixture.withKeys();
        check.due("sign(0, 3, 2), s 10", () -> keys.sign(0, 3, 2), signature(5, 10));
        check.due("sign(0, 0, 6), s 1", () -> keys.sign(0, 0, 6), signature(2, 1));
    }

    private static void noneWhenRIsZero(Check check) {
        check.sentence("ArithmeticException when r is 0");
        check.thrown("sign, great q", () -> great(1).sign(0, 0, K_OF_NO_R), ArithmeticException.class);
        DomainKeys keys = new DomainKeys();
        keys.adopt(11, 5, 3);
        keys.key(0, 2);
        // z is 1 and 0 by 5: s is above 0 with the first message, 0 with the second.
        check.due("digest(0)", () -> keys.digest(0) % 5, 1);
        check.thrown("sign(0, 0, 3)", () -> keys.sign(0, 0, 3), ArithmeticException.class);
        check.due("digest(1)", () -> keys.digest(1) % 5, 0);
        check.thrown("sign(0, 1, 3)", () -> keys.sign(0, 1, 3), ArithmeticException.class);
    }

    private static void noneWhenSIsZero(Check check) {
        check.sentence("ArithmeticException when s is 0");
        check.thrown("sign, great q", () -> great(31361).sign(0, 0, K_OF_GREATEST_R), ArithmeticException.class);
        DomainKeys keys = Fixture.withKeys();
        check.thrown("sign(0, 1, 8)", () -> keys.sign(0, 1, 8), ArithmeticException.class);
        check.thrown("sign(0, 4, 1)", () -> keys.sign(0, 4, 1), ArithmeticException.class);
        check.thrown("sign(0, 3, 9)", () -> keys.sign(0, 3, 9), ArithmeticException.class);
    }

    private static void leastAndGreatestDigest(Check check) {
        check.sentence("z is H(message, 3) >>> 49");
        long zero = -6179701661250746530L;
        long greatest = 6683971088114980557L;
        check.due("sign with z 0", () -> great(1).sign(0, zero, 1), signature(4, 4));
        check.due("sign with z 32767", () -> great(1).sign(0, greatest, 1), signature(4, 32771));
        DomainKeys keys = Fixture.withKeys();
        check.due("sign(0, z 0, 1)", () -> keys.sign(0, zero, 1), signature(4, 1));
        // 32767 + 12 by 11.
        check.due("sign(0, z 32767, 1)", () -> keys.sign(0, greatest, 1), signature(4, 10));
    }

    private static void leastDomain(Check check) {
        check.sentence("q is 3 or more");
        DomainKeys keys = new DomainKeys();
        keys.adopt(7, 3, 2);
        keys.key(0, 1);
        // z is 2 by 3; 2 and 4 are the powers: k 1 gives s 1, k 2 gives s 0.
        check.due("digest(0)", () -> keys.digest(0) % 3, 2);
        check.due("sign(0, 0, 1)", () -> keys.sign(0, 0, 1), signature(2, 1));
        check.thrown("sign(0, 0, 2)", () -> keys.sign(0, 0, 2), ArithmeticException.class);
        check.thrown("sign(0, 0, 3)", () -> keys.sign(0, 0, 3), IllegalArgumentException.class);
    }

    private static void changesNothing(Check check) {
        check.sentence("SIGNS a message: the signature");
        DomainKeys keys = Fixture.withKeys();
        String before = Fixture.picture(keys);
        check.due("sign(0, 0, 1)", () -> keys.sign(0, 0, 1), signature(4, 1));
        check.due("sign(0, 0, 1) again", () -> keys.sign(0, 0, 1), signature(4, 1));
        check.compare("what is seen after it", Fixture.picture(keys), before);
    }
}
