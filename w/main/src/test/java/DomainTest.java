import java.util.NoSuchElementException;

/** Promises 6 and 7: adopt and domain. */
public final class DomainTest {
    private static final int[][] DOMAINS = {
        {7, 3, 2}, {7, 3, 4}, {23, 11, 4}, {31, 5, 2}, {31, 3, 5}, {1019, 509, 4},
        {1122421849, 26171, 0}, {2147483647, 3, 1513477735}, {2147483647, 331, 272122089},
        {2147483579, 1073741789, 4}, {2147483579, 1073741789, 2147483579 - 2},
    };

    private static final int[][] NO_DOMAINS = {
        // g is out of its range, or no power of it helps.
        {23, 11, 1}, {23, 11, 0}, {23, 11, -1}, {23, 11, 22}, {23, 11, 23}, {23, 11, 24}, {23, 11, 27},
        {23, 11, 5}, {7, 3, 3}, {7, 3, 6}, {7, 3, 9}, {2147483647, 3, 2147483647}, {2147483647, 3, -1},
        // q is below 3, though g to its power is 1.
        {7, 2, 6}, {23, 2, 22}, {3, 2, 2}, {5, 2, 4}, {23, 1, 2}, {23, 0, 4}, {23, -11, 4}, {23, -1, 4},
        {7, Integer.MIN_VALUE, 2},
        // q is no prime, though g to its power is 1.
        {19, 9, 4}, {31, 15, 7}, {101, 25, 5}, {683, 341, 3}, {23, 22, 5}, {23, 22, 4},
        // q does not divide p - 1.
        {23, 7, 4}, {23, 23, 4}, {7, 5, 2}, {7, 11, 2}, {7, 2147483647, 2},
        // p is no prime, though q divides p - 1 and g to the power q is 1.
        {91, 3, 9}, {341, 5, 4}, {2147117569, 181, 2379923},
        {0, 3, 2}, {1, 3, 2}, {1, 3, 0}, {2, 3, 2}, {-23, 11, 4}, {-22, 11, 4},
        {Integer.MIN_VALUE, 3, 2}, {Integer.MIN_VALUE, 3, Integer.MIN_VALUE},
    };

    public static void main(String[] args) {
        Check check = new Check();
        DomainKeys fresh = new DomainKeys();
        refuseAll(check, fresh);
        isDomain(check, fresh, 0, 0, 0);
        fresh.generate(14);
        DOMAINS[6][2] = fresh.generator(0);
        for (int[] numbers : DOMAINS) {
            DomainKeys keys = new DomainKeys();
            keys.generate(14);
            keys.adopt(23, 11, 4);
            fillAll(keys);
            check.done("adopt " + numbers[0], () -> keys.adopt(numbers[0], numbers[1], numbers[2]));
            isDomain(check, keys, numbers[0], numbers[1], numbers[2]);
            slotsAreEmpty(check, keys);
            int y = keys.key(7, 1);
            refuseAll(check, keys);
            isDomain(check, keys, numbers[0], numbers[1], numbers[2]);
            check.due("publicNumber(7) after refusals", () -> keys.publicNumber(7), y);
            check.due("candidate(0) after adopting", () -> keys.candidate(0), 1122421849);
        }
        sameDomainAgainEmptiesTheSlots(check);
        check.end();
    }

    private static void refuseAll(Check check, DomainKeys keys) {
        for (int[] numbers : NO_DOMAINS) {
            check.refused("adopt(" + numbers[0] + ", " + numbers[1] + ", " + numbers[2] + ")",
                () -> keys.adopt(numbers[0], numbers[1], numbers[2]), IllegalArgumentException.class);
        }
    }

    private static void isDomain(Check check, DomainKeys keys, int p, int q, int g) {
        check.due("domain(0)", () -> keys.domain(0), p);
        check.due("domain(1)", () -> keys.domain(1), q);
        check.due("domain(2)", () -> keys.domain(2), g);
        for (int what : new int[] {3, -1, 4, Integer.MAX_VALUE, Integer.MIN_VALUE}) {
            check.due("domain(" + what + ")", () -> keys.domain(what), 0);
        }
    }

    private static void slotsAreEmpty(Check check, DomainKeys keys) {
        for (int slot = 0; slot < 8; slot++) {
            int asked = slot;
            check.thrown("publicNumber(" + slot + ") in a new domain",
                () -> keys.publicNumber(asked), NoSuchElementException.class);
            check.thrown("sign(" + slot + ", ..) in a new domain",
                () -> keys.sign(asked, 0, 1), NoSuchElementException.class);
        }
    }

    private static void fillAll(DomainKeys keys) {
        for (int slot = 0; slot < 8; slot++) {
            keys.key(slot, 2);
        }
    }

    private static void sameDomainAgainEmptiesTheSlots(Check check) {
        DomainKeys keys = new DomainKeys();
        keys.adopt(23, 11, 4);
        fillAll(keys);
        keys.adopt(23, 11, 4);
        slotsAreEmpty(check, keys);
        isDomain(check, keys, 23, 11, 4);
    }
}
