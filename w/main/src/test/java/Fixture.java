/** Objects in the states that tests start from, what can be seen of an object, and numbers at the edges. */
final class Fixture {
    /** The candidate of seed 10: p 2126623813, q 22567, counter 12. */
    static DomainKeys withCandidate() {
        DomainKeys keys = new DomainKeys();
        keys.generate(10);
        return keys;
    }

    /** The domain 23, 11, 4, no keys. */
    static DomainKeys withDomain() {
        DomainKeys keys = new DomainKeys();
        keys.adopt(23, 11, 4);
        return keys;
    }

    /** The candidate of seed 10; the domain 23, 11, 4 with the secrets 3, 10 and 1 in the slots 0, 3 and 7. */
    static DomainKeys withKeys() {
        DomainKeys keys = withCandidate();
        keys.adopt(23, 11, 4);
        keys.key(0, 3);
        keys.key(3, 10);
        keys.key(7, 1);
        return keys;
    }

    /** All that calls which change nothing tell of an object. 25 calls. */
    static String picture(DomainKeys keys) {
        StringBuilder seen = new StringBuilder();
        for (int what = 0; what < 4; what++) {
            seen.append(keys.candidate(what)).append(' ');
        }
        for (int what = 0; what < 3; what++) {
            seen.append(keys.domain(what)).append(' ');
        }
        seen.append(Check.outcome((Check.Call) () -> keys.generator(0))).append(' ');
        seen.append(Check.outcome((Check.Call) () -> keys.fits(2)));
        for (int slot = 0; slot < 8; slot++) {
            int asked = slot;
            seen.append(' ').append(Check.outcome((Check.Call) () -> keys.publicNumber(asked)));
            // By 23 no two powers of 5 up to the 22nd are the same, so this tells the secret itself.
            seen.append(' ').append(Check.outcome((Check.Call) () -> keys.agree(asked, 5)));
        }
        return seen.toString();
    }

    /** The first numbers outside of least .. greatest, and the outermost ones. */
    static int[] outside(int least, int greatest) {
        return new int[] {least - 1, greatest + 1, Integer.MIN_VALUE, Integer.MAX_VALUE};
    }
}
