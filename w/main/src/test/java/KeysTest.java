import java.util.NoSuchElementException;

/** Promises 8 to 11: key, publicNumber, forget, fits. */
public final class KeysTest {
    /** The powers of 4 by 23, from the power 0 on. */
    private static final int[] POWERS = {1, 4, 16, 18, 3, 12, 2, 8, 9, 13, 6};

    public static void main(String[] args) {
        Check check = new Check();
        keysOfEverySlot(check);
        wrongKeys(check);
        forgetting(check);
        fitting(check);
        largeNumbers(check);
        check.end();
    }

    private static void keysOfEverySlot(Check check) {
        DomainKeys keys = new DomainKeys();
        keys.adopt(23, 11, 4);
        for (int x = 1; x <= 10; x++) {
            for (int slot = 0; slot < 8; slot++) {
                int secret = (x + slot) % 10 + 1;
                int asked = slot;
                check.due("key(" + slot + ", " + secret + ")", () -> keys.key(asked, secret), POWERS[secret]);
            }
            for (int slot = 0; slot < 8; slot++) {
                int asked = slot;
                check.due("publicNumber(" + slot + ")",
                    () -> keys.publicNumber(asked), POWERS[(x + slot) % 10 + 1]);
            }
        }
    }

    private static void wrongKeys(Check check) {
        DomainKeys keys = new DomainKeys();
        check.thrown("key(8, 0), no domain", () -> keys.key(8, 0), IllegalStateException.class);
        check.thrown("key(0, 0), no domain", () -> keys.key(0, 0), IllegalStateException.class);
        keys.adopt(23, 11, 4);
        keys.key(0, 3);
        for (int slot : new int[] {-1, 8, 9, Integer.MAX_VALUE, Integer.MIN_VALUE}) {
            check.thrown("key(" + slot + ", 1)", () -> keys.key(slot, 1), IndexOutOfBoundsException.class);
            check.thrown("key(" + slot + ", 0)", () -> keys.key(slot, 0), IndexOutOfBoundsException.class);
            check.thrown("publicNumber(" + slot + ")",
                () -> keys.publicNumber(slot), NoSuchElementException.class);
            check.refused("forget(" + slot + ")", () -> keys.forget(slot), NoSuchElementException.class);
        }
        for (int x : new int[] {0, -1, 11, 12, Integer.MAX_VALUE, Integer.MIN_VALUE}) {
            check.thrown("key(0, " + x + ")", () -> keys.key(0, x), IllegalArgumentException.class);
            check.thrown("key(7, " + x + ")", () -> keys.key(7, x), IllegalArgumentException.class);
        }
        check.due("publicNumber(0) after refusals", () -> keys.publicNumber(0), 18);
        check.due("agree(0, 2) after refusals", () -> keys.agree(0, 2), 8);
        check.thrown("publicNumber(7) after refusals",
            () -> keys.publicNumber(7), NoSuchElementException.class);
    }

    private static void forgetting(Check check) {
        DomainKeys keys = new DomainKeys();
        check.refused("forget(0), no domain", () -> keys.forget(0), NoSuchElementException.class);
        keys.adopt(23, 11, 4);
        check.refused("forget(0), no key", () -> keys.forget(0), NoSuchElementException.class);
        keys.key(0, 3);
        keys.key(1, 10);
        keys.key(7, 5);
        check.done("forget(0)", () -> keys.forget(0));
        check.thrown("publicNumber(0)", () -> keys.publicNumber(0), NoSuchElementException.class);
        check.thrown("sign(0, 1, 1)", () -> keys.sign(0, 1, 1), NoSuchElementException.class);
        check.thrown("agree(0, 2)", () -> keys.agree(0, 2), NoSuchElementException.class);
        check.refused("forget(0) again", () -> keys.forget(0), NoSuchElementException.class);
        check.due("publicNumber(1)", () -> keys.publicNumber(1), 6);
        check.due("publicNumber(7)", () -> keys.publicNumber(7), 12);
        check.done("forget(7)", () -> keys.forget(7));
        check.thrown("publicNumber(7)", () -> keys.publicNumber(7), NoSuchElementException.class);
        check.due("key(0, 4)", () -> keys.key(0, 4), 3);
        check.due("publicNumber(0)", () -> keys.publicNumber(0), 3);
        check.due("domain(0)", () -> keys.domain(0), 23);
    }

    private static void fitting(Check check) {
        DomainKeys keys = new DomainKeys();
        check.thrown("fits(2), no domain", () -> keys.fits(2), IllegalStateException.class);
        check.thrown("fits(-1), no domain", () -> keys.fits(-1), IllegalStateException.class);
        keys.adopt(23, 11, 4);
        for (int y = -30; y <= 60; y++) {
            int asked = y;
            boolean among = false;
            for (int exponent = 1; exponent <= 10; exponent++) {
                among |= POWERS[exponent] == y;
            }
            check.due("fits(" + y + ")", () -> keys.fits(asked), among);
        }
        // By 7 the power 3 of 1 and of 8 has the remainder 1 too, but neither is 2 .. 5.
        keys.adopt(7, 3, 2);
        for (int y = -3; y <= 12; y++) {
            int asked = y;
            check.due("fits(" + y + ") by 7", () -> keys.fits(asked), asked == 2 || asked == 4);
        }
        check.due("fits(MIN_VALUE)", () -> keys.fits(Integer.MIN_VALUE), false);
        check.due("fits(MAX_VALUE)", () -> keys.fits(Integer.MAX_VALUE), false);
    }

    private static void largeNumbers(Check check) {
        int p = 2147483579;
        int q = 1073741789;
        DomainKeys keys = new DomainKeys();
        keys.adopt(p, q, 4);
        check.due("key(0, q - 1)", () -> keys.key(0, q - 1), 536870895);
        check.due("key(1, q - 2)", () -> keys.key(1, q - 2), 1744830408);
        check.due("key(2, 1)", () -> keys.key(2, 1), 4);
        check.thrown("key(2, q)", () -> keys.key(2, q), IllegalArgumentException.class);
        check.due("publicNumber(2)", () -> keys.publicNumber(2), 4);
        check.due("fits(536870895)", () -> keys.fits(536870895), true);
        check.due("fits(p - 2)", () -> keys.fits(p - 2), Reference.fits(p, q, p - 2));
        check.due("fits(p - 4)", () -> keys.fits(p - 4), Reference.fits(p, q, p - 4));
        check.due("fits(p - 1)", () -> keys.fits(p - 1), false);
        check.due("fits(1)", () -> keys.fits(1), false);
    }
}
