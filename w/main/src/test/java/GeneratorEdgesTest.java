import java.lang.reflect.Method;

/** The edges of promise 4 and of GENERATOR. The rows were found by a separate program. */
public final class GeneratorEdgesTest {
    public static void main(String[] args) {
        Check check = new Check();
        noCandidate(check);
        firstAndLastIndex(check);
        indexOutside(check);
        countsThatGiveOne(check);
        countThatGivesZero(check);
        leastAboveOne(check);
        leastAndGreatestField(check);
        countsToOneHundred(check);
        stays(check);
        check.end();
    }

    private static void is(Check check, long seed, int index, int want) {
        DomainKeys keys = new DomainKeys();
        keys.generate(seed);
        check.due("generator(" + index + ") of seed " + seed, () -> keys.generator(index), want);
    }

    private static void noCandidate(Check check) {
        check.sentence("IllegalStateException when there is no candidate");
        DomainKeys keys = Fixture.withDomain();
        for (int index : new int[] {0, 255}) {
            check.thrown("generator(" + index + "), a domain alone",
                () -> keys.generator(index), IllegalStateException.class);
        }
        keys.generate(11);
        keys.generate(5368);
        keys.valid(2126623813, 22567, 10, 12);
        check.thrown("generator(0) after making that failed",
            () -> keys.generator(0), IllegalStateException.class);
        keys.generate(10);
        check.due("generator(0) with a candidate", () -> keys.generator(0), 1841062231);
    }

    private static void firstAndLastIndex(Check check) {
        check.sentence("GENERATOR with an index (0 .. 255)");
        is(check, 10, 0, 1841062231);
        is(check, 10, 1, 1627115091);
        is(check, 10, 254, 147332336);
        is(check, 10, 255, 627292982);
    }

    private static void indexOutside(Check check) {
        check.sentence("IllegalArgumentException when the index is not 0 .. 255");
        DomainKeys keys = Fixture.withCandidate();
        for (int index : Fixture.outside(0, 255)) {
            check.thrown("generator(" + index + ")",
                () -> keys.generator(index), IllegalArgumentException.class);
        }
    }

    private static void countsThatGiveOne(Check check) {
        check.sentence("the first g above 1 is the generator");
        // The first count gives 1.
        is(check, 444, 3, 1287350758);
        is(check, 1095, 253, 674899382);
        is(check, 2885, 255, 839476325);
        // Here because W is 1, and here because W is p - 1.
        is(check, 29110973, 13, 2128780951);
        is(check, 17270639, 227, 166409071);
        // The first and the second count give 1.
        is(check, 22794905, 77, 1014850539);
        is(check, 23079235, 68, 1140550982);
    }

    private static void countThatGivesZero(Check check) {
        check.sentence("W is the remainder by p (0 here), the first g above 1 is the generator");
        is(check, 21298698, 143, 1029072377);
        is(check, 41691350, 115, 911503338);
        is(check, 173133534, 10, 1607604057);
    }

    private static void leastAboveOne(Check check) {
        check.sentence("the first g above 1 is the generator");
        is(check, 53717233, 163, 2);
        is(check, 72161473, 218, 2);
        is(check, 906615051, 104, 2);
    }

    /** What is made here is a generator, so a domain takes it. */
    private static void leastAndGreatestField(Check check) {
        check.sentence("g the remainder by p of W to the power (p - 1) / q");
        for (long seed : new long[] {2110657073067079188L, -5479925654381908460L}) {
            DomainKeys keys = new DomainKeys();
            keys.generate(seed);
            int p = (int) keys.candidate(0);
            int q = (int) keys.candidate(1);
            for (int index : new int[] {0, 255}) {
                int g = keys.generator(index);
                check.done("adopt generator " + index + " of seed " + seed, () -> keys.adopt(p, q, g));
            }
        }
    }

    /**
     * No seed is known, nor likely to be found, whose generator needs a fourth count: so the bound is asked
     * of the method inside, with a modulus by which nearly all powers are 1. What is inside is free, so a class
     * without that method is not wrong: it is only said that its bound was not tested.
     */
    private static void countsToOneHundred(Check check) {
        check.sentence("for each count from 1 to 100; 1 is if none is");
        Method inside;
        try {
            inside = DomainKeys.class.getDeclaredMethod("generatorFrom", long.class, int.class, int.class);
        } catch (NoSuchMethodException e) {
            System.out.println("not tested: the counts to 100 (no method generatorFrom inside)");
            return;
        }
        inside.setAccessible(true);
        // 601 * 1201 * 1801, a Carmichael number: the power by it less 1 is 1 but for multiples of these primes.
        int modulus = 1299963601;
        isFrom(check, inside, 80, modulus, 4329605);
        isFrom(check, inside, 78, modulus, 4329605);
        isFrom(check, inside, 484, modulus, 648900301);
        // With the count 100 for the first, with 101 and 102 for the others the power is above 1 for the first time.
        isFrom(check, inside, 229, modulus, 648900301);
        isFrom(check, inside, 75, modulus, 1);
        isFrom(check, inside, 70, modulus, 1);
        // By a prime it is never above 1.
        isFrom(check, inside, 0, 1073742077, 1);
        isFrom(check, inside, -1, 7, 1);
    }

    private static void isFrom(Check check, Method inside, long start, int modulus, int want) {
        check.due("generatorFrom(" + start + ", " + modulus + ", " + (modulus - 1) + ")", () -> {
            try {
                return inside.invoke(null, start, modulus, modulus - 1);
            } catch (ReflectiveOperationException e) {
                return e.toString();
            }
        }, want);
    }

    private static void stays(Check check) {
        check.sentence("The GENERATOR of the candidate");
        DomainKeys keys = Fixture.withKeys();
        String before = Fixture.picture(keys);
        check.due("generator(255)", () -> keys.generator(255), 627292982);
        check.due("generator(255) again", () -> keys.generator(255), 627292982);
        check.compare("what is seen after it", Fixture.picture(keys), before);
        keys.generate(14);
        keys.generate(10);
        keys.generate(5368);
        check.due("generator(255) of the candidate made again", () -> keys.generator(255), 627292982);
    }
}
