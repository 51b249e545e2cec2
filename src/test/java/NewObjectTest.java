import java.util.NoSuchElementException;

/** Promise 1: no candidate, no domain, no keys. */
public final class NewObjectTest {
    public static void main(String[] args) {
        Check check = new Check();
        DomainKeys keys = new DomainKeys();
        for (int what = -1; what <= 4; what++) {
            int asked = what;
            check.due("candidate(" + what + ")", () -> keys.candidate(asked), 0);
            check.due("domain(" + what + ")", () -> keys.domain(asked), 0);
        }
        for (int slot = -1; slot <= 8; slot++) {
            int asked = slot;
            check.thrown("publicNumber(" + slot + ")",
                () -> keys.publicNumber(asked), NoSuchElementException.class);
            check.refused("forget(" + slot + ")",
                () -> keys.forget(asked), NoSuchElementException.class);
        }
        check.thrown("generator(0)", () -> keys.generator(0), IllegalStateException.class);
        check.thrown("key(0, 1)", () -> keys.key(0, 1), IllegalStateException.class);
        check.thrown("fits(2)", () -> keys.fits(2), IllegalStateException.class);
        check.thrown("verify(1, 1, 1, 1)", () -> keys.verify(1, 1, 1, 1), IllegalStateException.class);
        check.thrown("sign(0, 1, 1)", () -> keys.sign(0, 1, 1), NoSuchElementException.class);
        check.thrown("agree(0, 2)", () -> keys.agree(0, 2), NoSuchElementException.class);
        twoObjectsShareNothing(check);
        check.end();
    }

    private static void twoObjectsShareNothing(Check check) {
        DomainKeys used = new DomainKeys();
        used.generate(10);
        used.adopt(23, 11, 4);
        used.key(0, 3);
        DomainKeys fresh = new DomainKeys();
        check.due("candidate(0) of another object", () -> fresh.candidate(0), 0);
        check.due("domain(0) of another object", () -> fresh.domain(0), 0);
        fresh.adopt(7, 3, 2);
        check.thrown("publicNumber(0) of another object",
            () -> fresh.publicNumber(0), NoSuchElementException.class);
        check.due("domain(0) of the first object", () -> used.domain(0), 23);
        check.due("publicNumber(0) of the first object", () -> used.publicNumber(0), 18);
    }
}
