import java.util.NoSuchElementException;

/** Promise 1: no candidate, no domain, no keys. */
public final class NewObjectTest {
    public static void main(String[] args) {
        Check check = new Check();
        noCandidate(check);
        noDomain(check);
        noKeys(check);
        noKeysInAFirstDomain(check);
        callsThatNeedNoState(check);
        twoObjectsShareNothing(check);
        check.end();
    }

    private static void noCandidate(Check check) {
        check.sentence("No candidate");
        DomainKeys keys = new DomainKeys();
        for (int what = -1; what <= 4; what++) {
            int asked = what;
            check.due("candidate(" + what + ")", () -> keys.candidate(asked), 0);
        }
        for (int index : new int[] {0, 1, 254, 255}) {
            check.thrown("generator(" + index + ")", () -> keys.generator(index), IllegalStateException.class);
        }
    }

    private static void noDomain(Check check) {
        check.sentence("no domain");
        DomainKeys keys = new DomainKeys();
        for (int what = -1; what <= 3; what++) {
            int asked = what;
            check.due("domain(" + what + ")", () -> keys.domain(asked), 0);
        }
        check.thrown("key(0, 1)", () -> keys.key(0, 1), IllegalStateException.class);
        check.thrown("key(7, 1)", () -> keys.key(7, 1), IllegalStateException.class);
        check.thrown("fits(2)", () -> keys.fits(2), IllegalStateException.class);
        check.thrown("verify(1, 1, 1, 1)", () -> keys.verify(1, 1, 1, 1), IllegalStateException.class);
    }

    private static void noKeys(Check check) {
        check.sentence("no keys");
        DomainKeys keys = new DomainKeys();
        for (int slot = -1; slot <= 8; slot++) {
            noKey(check, keys, slot);
        }
    }

    private static void noKeysInAFirstDomain(Check check) {
        check.sentence("no keys");
        DomainKeys keys = Fixture.withDomain();
        for (int slot = -1; slot <= 8; slot++) {
            noKey(check, keys, slot);
        }
    }

    private static void noKey(Check check, DomainKeys keys, int slot) {
        check.thrown("publicNumber(" + slot + ")", () -> keys.publicNumber(slot), NoSuchElementException.class);
        check.refused("forget(" + slot + ")", () -> keys.forget(slot), NoSuchElementException.class);
        check.thrown("sign(" + slot + ", 1, 1)", () -> keys.sign(slot, 1, 1), NoSuchElementException.class);
        check.thrown("agree(" + slot + ", 2)", () -> keys.agree(slot, 2), NoSuchElementException.class);
    }

    private static void callsThatNeedNoState(Check check) {
        check.sentence("No candidate, no domain, no keys");
        DomainKeys keys = new DomainKeys();
        String before = Fixture.picture(keys);
        check.due("digest(0)", () -> keys.digest(0), 31361);
        check.due("valid of seed 10", () -> keys.valid(2126623813, 22567, 10, 12), true);
        check.due("valid(0, 0, 0, 0)", () -> keys.valid(0, 0, 0, 0), false);
        check.compare("what is seen of a new object", Fixture.picture(keys), before);
        check.due("generate(10)", () -> keys.generate(10), 12);
        check.done("adopt(23, 11, 4)", () -> keys.adopt(23, 11, 4));
    }

    private static void twoObjectsShareNothing(Check check) {
        check.sentence("No candidate, no domain, no keys");
        DomainKeys used = Fixture.withKeys();
        String before = Fixture.picture(used);
        DomainKeys fresh = new DomainKeys();
        check.due("candidate(0) of another object", () -> fresh.candidate(0), 0);
        check.due("domain(0) of another object", () -> fresh.domain(0), 0);
        fresh.adopt(7, 3, 2);
        check.thrown("publicNumber(0) of another object",
            () -> fresh.publicNumber(0), NoSuchElementException.class);
        fresh.generate(14);
        fresh.key(0, 1);
        check.compare("what is seen of the first object", Fixture.picture(used), before);
    }
}
