import java.util.NoSuchElementException;

/** The edges of promise 8. */
public final class KeyEdgesTest {
    private static final int P = 2147483579;
    private static final int Q = 1073741789;

    public static void main(String[] args) {
        Check check = new Check();
        noDomain(check);
        firstAndLastSlot(check);
        slotOutside(check);
        leastAndGreatestSecret(check);
        secretOutside(check);
        insteadOfWhatWasThere(check);
        otherSlotsStay(check);
        check.end();
    }

    private static void noDomain(Check check) {
        check.sentence("IllegalStateException when there is no domain");
        DomainKeys keys = Fixture.withCandidate();
        for (int slot : new int[] {0, 7}) {
            check.thrown("key(" + slot + ", 1)", () -> keys.key(slot, 1), IllegalStateException.class);
        }
        check.done("adopt(23, 11, 4)", () -> keys.adopt(23, 11, 4));
        check.due("key(7, 1) in a domain", () -> keys.key(7, 1), 4);
    }

    private static void firstAndLastSlot(Check check) {
        check.sentence("in slots 0 .. 7 there may be a SECRET");
        DomainKeys keys = Fixture.withDomain();
        int[] powers = {4, 16, 18, 3, 12, 2, 8, 9};
        for (int slot = 0; slot < 8; slot++) {
            int asked = slot;
            check.due("key(" + slot + ", " + (slot + 1) + ")", () -> keys.key(asked, asked + 1), powers[slot]);
        }
        for (int slot = 0; slot < 8; slot++) {
            int asked = slot;
            check.due("publicNumber(" + slot + "), all slots full",
                () -> keys.publicNumber(asked), powers[slot]);
        }
    }

    private static void slotOutside(Check check) {
        check.sentence("IndexOutOfBoundsException when the slot is not 0 .. 7");
        for (int slot : Fixture.outside(0, 7)) {
            DomainKeys keys = Fixture.withKeys();
            String before = Fixture.picture(keys);
            check.thrown("key(" + slot + ", 1)", () -> keys.key(slot, 1), IndexOutOfBoundsException.class);
            check.compare("what is seen after it", Fixture.picture(keys), before);
        }
    }

    private static void leastAndGreatestSecret(Check check) {
        check.sentence("a SECRET x, 1 .. q - 1");
        DomainKeys keys = Fixture.withDomain();
        check.due("key(0, 1)", () -> keys.key(0, 1), 4);
        check.due("key(0, 10)", () -> keys.key(0, 10), 6);
        keys.adopt(7, 3, 2);
        check.due("key(0, 1) by 7", () -> keys.key(0, 1), 2);
        check.due("key(0, 2) by 7", () -> keys.key(0, 2), 4);
        keys.adopt(P, Q, 4);
        check.due("key(0, 1), great q", () -> keys.key(0, 1), 4);
        check.due("key(0, q - 1), great q", () -> keys.key(0, Q - 1), 536870895);
    }

    private static void secretOutside(Check check) {
        check.sentence("IllegalArgumentException when x is not 1 .. q - 1");
        // 12 and -10 have the remainder 1 by 11.
        for (int x : new int[] {0, 11, -1, 12, -10, Integer.MIN_VALUE, Integer.MAX_VALUE}) {
            DomainKeys keys = Fixture.withKeys();
            String before = Fixture.picture(keys);
            check.thrown("key(0, " + x + ")", () -> keys.key(0, x), IllegalArgumentException.class);
            check.thrown("key(1, " + x + ")", () -> keys.key(1, x), IllegalArgumentException.class);
            check.compare("what is seen after it", Fixture.picture(keys), before);
        }
        DomainKeys keys = new DomainKeys();
        keys.adopt(7, 3, 2);
        check.thrown("key(0, 3) by 7", () -> keys.key(0, 3), IllegalArgumentException.class);
        keys.adopt(P, Q, 4);
        check.thrown("key(0, q), great q", () -> keys.key(0, Q), IllegalArgumentException.class);
        check.thrown("publicNumber(0)", () -> keys.publicNumber(0), NoSuchElementException.class);
    }

    private static void insteadOfWhatWasThere(Check check) {
        check.sentence("The slot gets the secret x, instead of what was there");
        DomainKeys keys = Fixture.withKeys();
        check.due("key(0, 10)", () -> keys.key(0, 10), 6);
        check.due("publicNumber(0)", () -> keys.publicNumber(0), 6);
        // 5 to the power 10 by 23.
        check.due("agree(0, 5)", () -> keys.agree(0, 5), 9);
        check.due("key(0, 10) again", () -> keys.key(0, 10), 6);
        check.due("publicNumber(0)", () -> keys.publicNumber(0), 6);
    }

    private static void otherSlotsStay(Check check) {
        check.sentence("The slot gets the secret x (and no other slot)");
        DomainKeys keys = Fixture.withKeys();
        String before = Fixture.picture(keys);
        check.due("key(3, 5)", () -> keys.key(3, 5), 12);
        check.due("key(3, 10)", () -> keys.key(3, 10), 6);
        check.compare("what is seen after it", Fixture.picture(keys), before);
        // The same secret may stand in several slots.
        check.due("key(4, 10)", () -> keys.key(4, 10), 6);
        check.done("forget(4)", () -> keys.forget(4));
        check.compare("what is seen after it", Fixture.picture(keys), before);
    }
}
