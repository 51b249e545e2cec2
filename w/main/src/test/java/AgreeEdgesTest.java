import java.util.NoSuchElementException;

/** The edges of promise 15. */
public final class AgreeEdgesTest {
    private static final int P = 2147483579;
    private static final int Q = 1073741789;

    public static void main(String[] args) {
        Check check = new Check();
        slotWithoutKey(check);
        slotOutside(check);
        firstAndLastSlot(check);
        leastAndGreatestPeer(check);
        peerOutside(check);
        secretOfOne(check);
        secretBesideOne(check);
        leastAndGreatestSecret(check);
        changesNothing(check);
        check.end();
    }

    private static void slotWithoutKey(Check check) {
        check.sentence("NoSuchElementException when the slot has no key");
        for (DomainKeys keys : new DomainKeys[] {new DomainKeys(), Fixture.withCandidate(), Fixture.withDomain()}) {
            for (int slot = 0; slot < 8; slot++) {
                int asked = slot;
                check.thrown("agree(" + slot + ", 2)", () -> keys.agree(asked, 2), NoSuchElementException.class);
            }
        }
        DomainKeys keys = Fixture.withKeys();
        for (int slot : new int[] {1, 2, 4, 5, 6}) {
            check.thrown("agree(" + slot + ", 2)", () -> keys.agree(slot, 2), NoSuchElementException.class);
        }
    }

    private static void slotOutside(Check check) {
        check.sentence("NoSuchElementException when there is none such");
        DomainKeys keys = Fixture.withKeys();
        for (int slot : Fixture.outside(0, 7)) {
            check.thrown("agree(" + slot + ", 2)", () -> keys.agree(slot, 2), NoSuchElementException.class);
        }
    }

    private static void firstAndLastSlot(Check check) {
        check.sentence("The secret that the slot's key has with a peer");
        DomainKeys keys = Fixture.withDomain();
        // The powers 1 to 8 of 5 by 23.
        int[] powers = {5, 2, 10, 4, 20, 8, 17, 16};
        for (int slot = 0; slot < 8; slot++) {
            keys.key(slot, slot + 1);
        }
        for (int slot = 0; slot < 8; slot++) {
            int asked = slot;
            check.due("agree(" + slot + ", 5)", () -> keys.agree(asked, 5), powers[slot]);
        }
    }

    private static void leastAndGreatestPeer(Check check) {
        check.sentence("the peer's number is 2 .. p - 2");
        DomainKeys keys = Fixture.withKeys();
        check.due("agree(0, 2)", () -> keys.agree(0, 2), 8);
        check.due("agree(0, 21)", () -> keys.agree(0, 21), 15);
        keys.adopt(7, 3, 2);
        keys.key(0, 1);
        check.due("agree(0, 2) by 7", () -> keys.agree(0, 2), 2);
        check.due("agree(0, 5) by 7", () -> keys.agree(0, 5), 5);
        keys.adopt(P, Q, 4);
        keys.key(0, 1);
        check.due("agree(0, 2), great p", () -> keys.agree(0, 2), 2);
        check.due("agree(0, p - 2), great p", () -> keys.agree(0, P - 2), P - 2);
        keys.key(0, 2);
        check.due("agree(0, p - 2), x 2", () -> keys.agree(0, P - 2), 4);
    }

    private static void peerOutside(Check check) {
        check.sentence("IllegalArgumentException when the peer's number is not 2 .. p - 2");
        DomainKeys keys = Fixture.withKeys();
        // 25 and -21 have the remainder 2 by 23.
        for (int peer : new int[] {1, 22, 0, -1, 23, 24, 25, -21, Integer.MIN_VALUE, Integer.MAX_VALUE}) {
            check.thrown("agree(0, " + peer + ")", () -> keys.agree(0, peer), IllegalArgumentException.class);
        }
        keys.adopt(7, 3, 2);
        keys.key(0, 1);
        for (int peer : new int[] {1, 6, 0, 7, -1, 8}) {
            check.thrown("agree(0, " + peer + ") by 7", () -> keys.agree(0, peer), IllegalArgumentException.class);
        }
        keys.adopt(P, Q, 4);
        keys.key(0, 1);
        for (int peer : new int[] {1, P - 1, 0, P, P + 1, P + 2, -2, Integer.MIN_VALUE, Integer.MAX_VALUE}) {
            check.thrown("agree(0, " + peer + "), great p",
                () -> keys.agree(0, peer), IllegalArgumentException.class);
        }
    }

    private static void secretOfOne(Check check) {
        check.sentence("ArithmeticException when the secret would be 1");
        DomainKeys keys = new DomainKeys();
        // By 31 the numbers 5 and 25 have the order 3, and 2 has the order 5; by 7 no secret below 3 gives 1.
        keys.adopt(31, 5, 2);
        keys.key(0, 3);
        check.thrown("agree(0, 5)", () -> keys.agree(0, 5), ArithmeticException.class);
        check.thrown("agree(0, 25)", () -> keys.agree(0, 25), ArithmeticException.class);
        keys.adopt(31, 3, 5);
        keys.key(7, 2);
        check.due("agree(7, 2)", () -> keys.agree(7, 2), 4);
        check.due("agree(7, 29)", () -> keys.agree(7, 29), 4);
    }

    private static void secretBesideOne(Check check) {
        check.sentence("ArithmeticException when the secret would be 1 (and for no other secret)");
        DomainKeys keys = new DomainKeys();
        keys.adopt(31, 5, 2);
        keys.key(0, 3);
        // By 31 the order of 6 is 6: its power 3 is p - 1.
        check.due("agree(0, 6)", () -> keys.agree(0, 6), 30);
        // 4 to the power 3 is 64.
        check.due("agree(0, 4)", () -> keys.agree(0, 4), 2);
        keys.key(0, 1);
        for (int peer = 2; peer <= 29; peer++) {
            int asked = peer;
            check.due("agree(0, " + peer + "), x 1", () -> keys.agree(0, asked), peer);
        }
    }

    private static void leastAndGreatestSecret(Check check) {
        check.sentence("the remainder by p of peer to the power x");
        DomainKeys keys = Fixture.withKeys();
        check.due("agree(7, 13), x 1", () -> keys.agree(7, 13), 13);
        // 2 is a power of 4: to the power 10 it is its inverse.
        check.due("agree(3, 2), x 10", () -> keys.agree(3, 2), 12);
        keys.adopt(P, Q, 4);
        keys.key(3, Q - 1);
        check.due("agree(3, p - 2), x q - 1", () -> keys.agree(3, P - 2), 1073741789);
        check.due("agree(3, 1218529153), x q - 1", () -> keys.agree(3, 1218529153), 894461708);
    }

    private static void changesNothing(Check check) {
        check.sentence("The secret that the slot's key has with a peer");
        DomainKeys keys = Fixture.withKeys();
        String before = Fixture.picture(keys);
        check.due("agree(0, 2)", () -> keys.agree(0, 2), 8);
        check.due("agree(0, 2) again", () -> keys.agree(0, 2), 8);
        check.compare("what is seen after it", Fixture.picture(keys), before);
    }
}
