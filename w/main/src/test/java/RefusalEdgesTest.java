import java.util.NoSuchElementException;
import java.util.function.Supplier;

/** The sentences of the terms on calls that throw, for every call of the face that may. */
public final class RefusalEdgesTest {
    private interface Refused {
        Object call(DomainKeys keys);
    }

    private final Check check;
    private final Supplier<DomainKeys> state;

    private RefusalEdgesTest(Check check, Supplier<DomainKeys> state) {
        this.check = check;
        this.state = state;
    }

    public static void main(String[] args) {
        Check check = new Check();
        new RefusalEdgesTest(check, DomainKeys::new).noCandidateChangesNothing();
        new RefusalEdgesTest(check, Fixture::withDomain).noCandidateChangesNothing();
        new RefusalEdgesTest(check, DomainKeys::new).noDomainChangesNothing();
        new RefusalEdgesTest(check, Fixture::withCandidate).noDomainChangesNothing();
        new RefusalEdgesTest(check, DomainKeys::new).noKeyChangesNothing();
        new RefusalEdgesTest(check, Fixture::withDomain).noKeyChangesNothing();
        new RefusalEdgesTest(check, Fixture::withKeys).noKeyChangesNothing();
        new RefusalEdgesTest(check, Fixture::withKeys).wrongNumbersChangeNothing();
        new RefusalEdgesTest(check, RefusalEdgesTest::withoutSignature).noSignatureChangesNothing();
        new RefusalEdgesTest(check, RefusalEdgesTest::withSecretOfOne).secretOfOneChangesNothing();
        firstOfGenerator(check);
        firstOfKey(check);
        firstOfSign(check);
        firstOfAgree(check);
        check.end();
    }

    /** 3 to the power 3 is 5 by 11, so that r is 0 with a k of 3. */
    private static DomainKeys withoutSignature() {
        DomainKeys keys = Fixture.withCandidate();
        keys.adopt(11, 5, 3);
        keys.key(0, 2);
        keys.key(7, 1);
        return keys;
    }

    /** 5 and 25 to the power 3 are 1 by 31. */
    private static DomainKeys withSecretOfOne() {
        DomainKeys keys = Fixture.withCandidate();
        keys.adopt(31, 5, 2);
        keys.key(0, 3);
        keys.key(7, 4);
        return keys;
    }

    private void keeps(String call, Refused refused, Class<? extends RuntimeException> want) {
        DomainKeys keys = state.get();
        String before = Fixture.picture(keys);
        check.thrown(call, () -> refused.call(keys), want);
        check.compare("what is seen after " + call, Fixture.picture(keys), before);
    }

    private static Object forget(DomainKeys keys, int slot) {
        keys.forget(slot);
        return "done";
    }

    private static Object adopt(DomainKeys keys, int p, int q, int g) {
        keys.adopt(p, q, g);
        return "done";
    }

    private void noCandidateChangesNothing() {
        check.sentence("A call that throws changes nothing (no candidate)");
        keeps("generator(0)", keys -> keys.generator(0), IllegalStateException.class);
        keeps("generator(256)", keys -> keys.generator(256), IllegalStateException.class);
    }

    private void noDomainChangesNothing() {
        check.sentence("A call that throws changes nothing (no domain)");
        keeps("key(0, 1)", keys -> keys.key(0, 1), IllegalStateException.class);
        keeps("fits(2)", keys -> keys.fits(2), IllegalStateException.class);
        keeps("verify(1, 1, 1, 1)", keys -> keys.verify(1, 1, 1, 1), IllegalStateException.class);
    }

    private void noKeyChangesNothing() {
        check.sentence("A call that throws changes nothing (no key, no such slot)");
        for (int slot : new int[] {-1, 1, 6, 8}) {
            keeps("publicNumber(" + slot + ")", keys -> keys.publicNumber(slot), NoSuchElementException.class);
            keeps("forget(" + slot + ")", keys -> forget(keys, slot), NoSuchElementException.class);
            keeps("sign(" + slot + ", 1, 1)", keys -> keys.sign(slot, 1, 1), NoSuchElementException.class);
            keeps("agree(" + slot + ", 2)", keys -> keys.agree(slot, 2), NoSuchElementException.class);
        }
    }

    private void wrongNumbersChangeNothing() {
        check.sentence("A call that throws changes nothing (wrong numbers)");
        keeps("generator(-1)", keys -> keys.generator(-1), IllegalArgumentException.class);
        keeps("generator(256)", keys -> keys.generator(256), IllegalArgumentException.class);
        keeps("adopt(23, 11, 22)", keys -> adopt(keys, 23, 11, 22), IllegalArgumentException.class);
        keeps("adopt(7, 3, 1)", keys -> adopt(keys, 7, 3, 1), IllegalArgumentException.class);
        keeps("key(-1, 1)", keys -> keys.key(-1, 1), IndexOutOfBoundsException.class);
        keeps("key(8, 1)", keys -> keys.key(8, 1), IndexOutOfBoundsException.class);
        keeps("key(0, 0)", keys -> keys.key(0, 0), IllegalArgumentException.class);
        keeps("key(0, 11)", keys -> keys.key(0, 11), IllegalArgumentException.class);
        keeps("key(1, 0)", keys -> keys.key(1, 0), IllegalArgumentException.class);
        keeps("key(1, 11)", keys -> keys.key(1, 11), IllegalArgumentException.class);
        keeps("sign(0, 0, 0)", keys -> keys.sign(0, 0, 0), IllegalArgumentException.class);
        keeps("sign(0, 0, 11)", keys -> keys.sign(0, 0, 11), IllegalArgumentException.class);
        keeps("sign(0, 1, 8)", keys -> keys.sign(0, 1, 8), ArithmeticException.class);
        keeps("agree(0, 1)", keys -> keys.agree(0, 1), IllegalArgumentException.class);
        keeps("agree(0, 22)", keys -> keys.agree(0, 22), IllegalArgumentException.class);
    }

    private void noSignatureChangesNothing() {
        check.sentence("A call that throws changes nothing (r is 0, s is 0)");
        keeps("sign(0, 0, 3)", keys -> keys.sign(0, 0, 3), ArithmeticException.class);
        // z is 1 and r is 4, so that s is 0 with the secret 1.
        keeps("sign(7, 0, 2)", keys -> keys.sign(7, 0, 2), ArithmeticException.class);
    }

    private void secretOfOneChangesNothing() {
        check.sentence("A call that throws changes nothing (a secret of 1)");
        keeps("agree(0, 5)", keys -> keys.agree(0, 5), ArithmeticException.class);
        keeps("agree(0, 25)", keys -> keys.agree(0, 25), ArithmeticException.class);
    }

    private static void firstOfGenerator(Check check) {
        check.sentence("the one that its comment names first is thrown (generator)");
        DomainKeys keys = new DomainKeys();
        for (int index : Fixture.outside(0, 255)) {
            check.thrown("generator(" + index + "), no candidate",
                () -> keys.generator(index), IllegalStateException.class);
        }
    }

    private static void firstOfKey(Check check) {
        check.sentence("the one that its comment names first is thrown (key)");
        DomainKeys fresh = new DomainKeys();
        DomainKeys keys = Fixture.withKeys();
        for (int slot : Fixture.outside(0, 7)) {
            check.thrown("key(" + slot + ", 1), no domain", () -> fresh.key(slot, 1), IllegalStateException.class);
            for (int x : Fixture.outside(1, 10)) {
                check.thrown("key(" + slot + ", " + x + "), no domain",
                    () -> fresh.key(slot, x), IllegalStateException.class);
                check.thrown("key(0, " + x + "), no domain", () -> fresh.key(0, x), IllegalStateException.class);
                check.thrown("key(" + slot + ", " + x + ")",
                    () -> keys.key(slot, x), IndexOutOfBoundsException.class);
            }
        }
    }

    private static void firstOfSign(Check check) {
        check.sentence("the one that its comment names first is thrown (sign)");
        DomainKeys fresh = new DomainKeys();
        DomainKeys keys = withoutSignature();
        // 8 and -2 have the remainder 3 by 5, with which r is 0.
        for (int k : new int[] {0, 5, 8, -2, 3, Integer.MIN_VALUE, Integer.MAX_VALUE}) {
            check.thrown("sign(0, 0, " + k + "), no domain",
                () -> fresh.sign(0, 0, k), NoSuchElementException.class);
            for (int slot : new int[] {-1, 1, 6, 8}) {
                check.thrown("sign(" + slot + ", 0, " + k + ")",
                    () -> keys.sign(slot, 0, k), NoSuchElementException.class);
            }
            if (k != 3) {
                check.thrown("sign(0, 0, " + k + ")", () -> keys.sign(0, 0, k), IllegalArgumentException.class);
            }
        }
        check.thrown("sign(0, 0, 3)", () -> keys.sign(0, 0, 3), ArithmeticException.class);
    }

    private static void firstOfAgree(Check check) {
        check.sentence("the one that its comment names first is thrown (agree)");
        DomainKeys fresh = new DomainKeys();
        DomainKeys keys = Fixture.withDomain();
        keys.key(0, 2);
        // To the power 2 each of these has the remainder 1 by 23.
        for (int peer : new int[] {1, 22, 24, -1, -22, 45}) {
            check.thrown("agree(0, " + peer + "), no domain",
                () -> fresh.agree(0, peer), NoSuchElementException.class);
            for (int slot : new int[] {-1, 1, 7, 8}) {
                check.thrown("agree(" + slot + ", " + peer + ")",
                    () -> keys.agree(slot, peer), NoSuchElementException.class);
            }
            check.thrown("agree(0, " + peer + ")", () -> keys.agree(0, peer), IllegalArgumentException.class);
        }
        // 36 has the remainder 5 by 31.
        DomainKeys one = withSecretOfOne();
        check.thrown("agree(1, 5)", () -> one.agree(1, 5), NoSuchElementException.class);
        check.thrown("agree(0, 36)", () -> one.agree(0, 36), IllegalArgumentException.class);
        check.thrown("agree(0, 5)", () -> one.agree(0, 5), ArithmeticException.class);
    }
}
