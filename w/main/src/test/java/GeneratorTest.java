/** Promise 4: generator. The rows were found by a separate program. */
public final class GeneratorTest {
    /** seed, index, generator. */
    private static final long[][] FOUND = {
        {10, 0, 1841062231},
        {10, 1, 1627115091},
        {10, 254, 147332336},
        {10, 255, 627292982},
        {-6, 0, 1035545179},
        {-6, 255, 582686259},
        // The first count gives 1 here, the second is taken.
        {444, 3, 1287350758},
        {666, 152, 745108587},
        {1095, 253, 674899382},
        {2885, 255, 839476325},
    };

    public static void main(String[] args) {
        Check check = new Check();
        DomainKeys keys = new DomainKeys();
        for (int index : new int[] {0, 255, 256, -1}) {
            check.thrown("generator(" + index + ") without a candidate",
                () -> keys.generator(index), IllegalStateException.class);
        }
        for (long[] found : FOUND) {
            keys.generate(found[0]);
            check.due("generator(" + found[1] + ") of seed " + found[0],
                () -> keys.generator((int) found[1]), found[2]);
        }
        for (int index : new int[] {256, -1, 257, Integer.MAX_VALUE, Integer.MIN_VALUE}) {
            check.thrown("generator(" + index + ")",
                () -> keys.generator(index), IllegalArgumentException.class);
        }
        everyGeneratorMakesADomain(check);
        failuresKeepTheGenerators(check);
        check.end();
    }

    private static void everyGeneratorMakesADomain(Check check) {
        for (int index = 0; index < 256; index++) {
            DomainKeys keys = new DomainKeys();
            keys.generate(14);
            int g = keys.generator(index);
            check.done("adopt with generator " + index, () -> keys.adopt(1122421849, 26171, g));
        }
    }

    private static void failuresKeepTheGenerators(Check check) {
        DomainKeys keys = new DomainKeys();
        keys.generate(10);
        keys.generate(11);
        keys.generate(5368);
        keys.valid(1760129321, 21773, -6, 5);
        keys.adopt(23, 11, 4);
        check.due("generator(0) after calls that keep the candidate", () -> keys.generator(0), 1841062231);
    }
}
