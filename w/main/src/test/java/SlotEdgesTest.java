import java.util.NoSuchElementException;

/** The edges of promises 9 and 10: publicNumber and forget. */
public final class SlotEdgesTest {
    public static void main(String[] args) {
        Check check = new Check();
        publicNumberAtTheEnds(check);
        publicNumberWithoutKey(check);
        publicNumberOutside(check);
        forgetAtTheEnds(check);
        forgetWithoutKey(check);
        forgetOutside(check);
        forgottenSlotIsWithoutKey(check);
        check.end();
    }

    private static void publicNumberAtTheEnds(Check check) {
        check.sentence("The public number of a slot's key");
        DomainKeys keys = Fixture.withKeys();
        String before = Fixture.picture(keys);
        check.due("publicNumber(0)", () -> keys.publicNumber(0), 18);
        check.due("publicNumber(3)", () -> keys.publicNumber(3), 6);
        check.due("publicNumber(7)", () -> keys.publicNumber(7), 4);
        check.compare("what is seen after asking", Fixture.picture(keys), before);
    }

    private static void publicNumberWithoutKey(Check check) {
        check.sentence("publicNumber throws NoSuchElementException when it has none");
        DomainKeys[] without = {new DomainKeys(), Fixture.withCandidate(), Fixture.withDomain()};
        for (DomainKeys keys : without) {
            for (int slot = 0; slot < 8; slot++) {
                noPublicNumber(check, keys, slot);
            }
        }
        DomainKeys keys = Fixture.withKeys();
        for (int slot : new int[] {1, 2, 4, 5, 6}) {
            noPublicNumber(check, keys, slot);
        }
    }

    private static void publicNumberOutside(Check check) {
        check.sentence("publicNumber throws NoSuchElementException when there is no such slot");
        for (DomainKeys keys : new DomainKeys[] {new DomainKeys(), Fixture.withDomain(), Fixture.withKeys()}) {
            for (int slot : Fixture.outside(0, 7)) {
                noPublicNumber(check, keys, slot);
            }
        }
    }

    private static void noPublicNumber(Check check, DomainKeys keys, int slot) {
        check.thrown("publicNumber(" + slot + ")", () -> keys.publicNumber(slot), NoSuchElementException.class);
    }

    private static void forgetAtTheEnds(Check check) {
        check.sentence("The slot is without a key");
        for (int slot = 0; slot < 8; slot++) {
            int asked = slot;
            DomainKeys keys = Fixture.withDomain();
            for (int other = 0; other < 8; other++) {
                keys.key(other, 1);
            }
            check.done("forget(" + slot + ")", () -> keys.forget(asked));
            for (int other = 0; other < 8; other++) {
                int read = other;
                if (other == slot) {
                    noPublicNumber(check, keys, slot);
                } else {
                    check.due("publicNumber(" + other + ") after forget(" + slot + ")",
                        () -> keys.publicNumber(read), 4);
                }
            }
        }
    }

    private static void forgetWithoutKey(Check check) {
        check.sentence("forget throws NoSuchElementException when it has none");
        DomainKeys[] without = {new DomainKeys(), Fixture.withCandidate(), Fixture.withDomain()};
        for (DomainKeys keys : without) {
            for (int slot = 0; slot < 8; slot++) {
                notForgotten(check, keys, slot);
            }
        }
        for (int slot : new int[] {1, 2, 4, 5, 6}) {
            notForgotten(check, Fixture.withKeys(), slot);
        }
    }

    private static void forgetOutside(Check check) {
        check.sentence("forget throws NoSuchElementException when there is no such slot");
        for (int slot : Fixture.outside(0, 7)) {
            notForgotten(check, new DomainKeys(), slot);
            notForgotten(check, Fixture.withDomain(), slot);
            notForgotten(check, Fixture.withKeys(), slot);
        }
    }

    private static void notForgotten(Check check, DomainKeys keys, int slot) {
        String before = Fixture.picture(keys);
        check.refused("forget(" + slot + ")", () -> keys.forget(slot), NoSuchElementException.class);
        check.compare("what is seen after forget(" + slot + ")", Fixture.picture(keys), before);
    }

    private static void forgottenSlotIsWithoutKey(Check check) {
        check.sentence("The slot is without a key");
        DomainKeys keys = Fixture.withKeys();
        String before = Fixture.picture(keys);
        check.done("forget(0)", () -> keys.forget(0));
        check.refused("forget(0) again", () -> keys.forget(0), NoSuchElementException.class);
        check.thrown("sign(0, 1, 1)", () -> keys.sign(0, 1, 1), NoSuchElementException.class);
        check.thrown("agree(0, 2)", () -> keys.agree(0, 2), NoSuchElementException.class);
        check.due("domain(0)", () -> keys.domain(0), 23);
        check.due("key(0, 3)", () -> keys.key(0, 3), 18);
        check.compare("what is seen with the key again", Fixture.picture(keys), before);
    }
}
