import java.util.NoSuchElementException;

/** The edges of promise 6 and of DOMAIN. Where a row is no domain, one thing alone is wrong with it. */
public final class AdoptEdgesTest {
    public static void main(String[] args) {
        Check check = new Check();
        fieldThatIsNoPrime(check);
        orderThatIsNoPrime(check);
        orderBelowThree(check);
        orderThatDoesNotDivide(check);
        generatorAtItsEnds(check);
        generatorOfAnotherOrder(check);
        leastAndGreatestDomains(check);
        numbersAtTheEndsOfInt(check);
        inUseFromNowOn(check);
        allSlotsWithoutKeys(check);
        refusedKeepsAll(check);
        check.end();
    }

    private static void takes(Check check, int p, int q, int g) {
        DomainKeys keys = new DomainKeys();
        check.done("adopt(" + p + ", " + q + ", " + g + ")", () -> keys.adopt(p, q, g));
        isDomain(check, keys, p, q, g);
    }

    private static void refuses(Check check, int p, int q, int g) {
        DomainKeys keys = new DomainKeys();
        check.refused("adopt(" + p + ", " + q + ", " + g + ")",
            () -> keys.adopt(p, q, g), IllegalArgumentException.class);
        isDomain(check, keys, 0, 0, 0);
    }

    private static void isDomain(Check check, DomainKeys keys, int p, int q, int g) {
        check.due("domain(0)", () -> keys.domain(0), p);
        check.due("domain(1)", () -> keys.domain(1), q);
        check.due("domain(2)", () -> keys.domain(2), g);
    }

    private static void fieldThatIsNoPrime(Check check) {
        check.sentence("p is a prime");
        // Even, the square of 7, a product of two, and numbers that many tests take for primes.
        refuses(check, 28, 3, 9);
        refuses(check, 49, 3, 18);
        refuses(check, 91, 3, 16);
        refuses(check, 341, 5, 64);
        refuses(check, 561, 5, 460);
        refuses(check, 1729, 3, 638);
        refuses(check, 25326001, 5, 5872860);
        refuses(check, 161304001, 47, 125602951);
        refuses(check, 960946321, 101, 710615771);
        refuses(check, 1157839381, 401, 1043112635);
        // The square of 46337, the greatest one of a prime that an int holds.
        refuses(check, 2147117569, 181, 2379923);
        for (int p : new int[] {-7, -1, 0, 1, 2}) {
            refuses(check, p, 3, 2);
        }
    }

    private static void orderThatIsNoPrime(Check check) {
        check.sentence("q is a prime");
        refuses(check, 5, 4, 2);
        refuses(check, 5, 4, 4);
        refuses(check, 23, 22, 5);
        refuses(check, 19, 9, 4);
        refuses(check, 31, 15, 4);
        refuses(check, 101, 25, 16);
        refuses(check, 683, 341, 4);
        refuses(check, 1123, 561, 4);
        refuses(check, 36847, 2047, 4215);
        refuses(check, 720743, 32761, 590589);
        refuses(check, 5494613, 1373653, 16);
        refuses(check, 253260011, 25326001, 1024);
    }

    private static void orderBelowThree(Check check) {
        check.sentence("q is 3 or more");
        takes(check, 7, 3, 2);
        takes(check, 7, 3, 4);
        // To the power 2 each of these g has the remainder 1.
        refuses(check, 7, 2, 6);
        refuses(check, 3, 2, 2);
        refuses(check, 5, 2, 4);
        refuses(check, 2147483647, 2, 2147483646);
        for (int q : new int[] {1, 0, -1, -3}) {
            refuses(check, 7, q, 2);
        }
    }

    private static void orderThatDoesNotDivide(Check check) {
        check.sentence("q divides p - 1");
        for (int q = 12; q <= 30; q++) {
            for (int g = 2; g <= 21; g++) {
                // 22 divides 22, but is no prime.
                refuses(check, 23, q, g);
            }
        }
        for (int g = 2; g <= 5; g++) {
            refuses(check, 7, 5, g);
            refuses(check, 7, 7, g);
            refuses(check, 5, 3, g);
            refuses(check, 3, 3, g);
        }
    }

    private static void generatorAtItsEnds(Check check) {
        check.sentence("g is 2 .. p - 1");
        takes(check, 23, 11, 2);
        // The next below p - 1; p - 1 itself to an odd power is never 1.
        takes(check, 11, 5, 9);
        takes(check, 2147483579, 1073741789, 2147483577);
        refuses(check, 11, 5, 10);
        refuses(check, 2147483579, 1073741789, 2147483578);
        // To the power 11 each of these has the remainder 1 by 23: 1, 24, -22; 4 + 23, 4 - 23.
        for (int g : new int[] {1, 24, -22, 27, -19}) {
            refuses(check, 23, 11, g);
        }
        for (int g : new int[] {0, -1, 23, Integer.MIN_VALUE, Integer.MAX_VALUE}) {
            refuses(check, 23, 11, g);
        }
        refuses(check, 2147483647, 3, 1);
        refuses(check, 2147483647, 3, 2147483647);
        refuses(check, 2147483647, 3, Integer.MIN_VALUE);
    }

    private static void generatorOfAnotherOrder(Check check) {
        check.sentence("g to the power q has the remainder 1 by p");
        boolean[] powers = new boolean[23];
        for (int power : new int[] {2, 3, 4, 6, 8, 9, 12, 13, 16, 18}) {
            powers[power] = true;
        }
        for (int g = 2; g <= 22; g++) {
            if (powers[g]) {
                takes(check, 23, 11, g);
            } else {
                refuses(check, 23, 11, g);
            }
        }
    }

    private static void leastAndGreatestDomains(Check check) {
        check.sentence("A DOMAIN is three numbers p, q, g");
        takes(check, 7, 3, 2);
        takes(check, 2147483647, 3, 1513477735);
        takes(check, 2147483647, 331, 272122089);
        takes(check, 2147483579, 1073741789, 4);
    }

    private static void numbersAtTheEndsOfInt(Check check) {
        check.sentence("Throws IllegalArgumentException when they are no domain");
        int least = Integer.MIN_VALUE;
        int greatest = Integer.MAX_VALUE;
        for (int p : new int[] {least, -1, 0, 23, greatest}) {
            for (int q : new int[] {least, -1, 0, 11, greatest}) {
                for (int g : new int[] {least, -1, 0, 4, greatest}) {
                    if (p != 23 || q != 11 || g != 4) {
                        refuses(check, p, q, g);
                    }
                }
            }
        }
        // The least int less 1 wraps to the greatest, which is a prime.
        refuses(check, least, greatest, 2);
        refuses(check, 1, greatest, 2);
        refuses(check, greatest, greatest, 2);
    }

    private static void inUseFromNowOn(Check check) {
        check.sentence("The domain of these numbers is in use from now on");
        DomainKeys keys = Fixture.withKeys();
        check.done("adopt(7, 3, 2)", () -> keys.adopt(7, 3, 2));
        isDomain(check, keys, 7, 3, 2);
        check.due("key(0, 2)", () -> keys.key(0, 2), 4);
        check.thrown("key(0, 3)", () -> keys.key(0, 3), IllegalArgumentException.class);
        check.due("fits(6)", () -> keys.fits(6), false);
        check.done("adopt(23, 11, 4)", () -> keys.adopt(23, 11, 4));
        check.due("key(0, 3)", () -> keys.key(0, 3), 18);
        check.due("fits(6)", () -> keys.fits(6), true);
        check.due("candidate(2)", () -> keys.candidate(2), 10);
    }

    private static void allSlotsWithoutKeys(Check check) {
        check.sentence("and all slots are without keys");
        for (int[] next : new int[][] {{23, 11, 4}, {23, 11, 2}, {7, 3, 2}}) {
            DomainKeys keys = Fixture.withDomain();
            for (int slot = 0; slot < 8; slot++) {
                keys.key(slot, 1);
            }
            keys.adopt(next[0], next[1], next[2]);
            for (int slot = 0; slot < 8; slot++) {
                int asked = slot;
                check.thrown("publicNumber(" + slot + ")",
                    () -> keys.publicNumber(asked), NoSuchElementException.class);
                check.refused("forget(" + slot + ")", () -> keys.forget(asked), NoSuchElementException.class);
                check.thrown("sign(" + slot + ", 1, 1)",
                    () -> keys.sign(asked, 1, 1), NoSuchElementException.class);
                check.thrown("agree(" + slot + ", 2)",
                    () -> keys.agree(asked, 2), NoSuchElementException.class);
            }
        }
    }

    private static void refusedKeepsAll(Check check) {
        check.sentence("A call that throws changes nothing (adopt)");
        int[][] refused = {
            {7, 3, 3}, {7, 3, 1}, {7, 2, 6}, {91, 3, 16}, {19, 9, 4}, {23, 11, 22}, {0, 0, 0}, {23, 11, 5},
        };
        for (int[] numbers : refused) {
            DomainKeys keys = Fixture.withKeys();
            String before = Fixture.picture(keys);
            check.refused("adopt " + numbers[0] + ", " + numbers[1] + ", " + numbers[2],
                () -> keys.adopt(numbers[0], numbers[1], numbers[2]), IllegalArgumentException.class);
            check.compare("what is seen after it", Fixture.picture(keys), before);
        }
    }
}
