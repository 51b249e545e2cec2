import java.util.NoSuchElementException;

/** Promise 15: agree. */
public final class AgreeTest {
    public static void main(String[] args) {
        Check check = new Check();
        bothSidesAgree(check);
        secretOfOne(check);
        wrongCalls(check);
        largeNumbers(check);
        check.end();
    }

    private static void bothSidesAgree(Check check) {
        DomainKeys here = new DomainKeys();
        DomainKeys there = new DomainKeys();
        here.adopt(23, 11, 4);
        there.adopt(23, 11, 4);
        int y = here.key(2, 3);
        int peer = there.key(6, 7);
        // 4 to the power 21 is 4 to the power 10 by 23.
        check.due("agree(2, 8)", () -> here.agree(2, peer), 6);
        check.due("agree(6, 18)", () -> there.agree(6, y), 6);
        // A peer outside the subgroup is taken as it is: 5 to the power 3 is 125.
        check.due("agree(2, 5)", () -> here.agree(2, 5), 10);
        check.due("agree(2, 2)", () -> here.agree(2, 2), 8);
        check.due("agree(2, 21)", () -> here.agree(2, 21), 15);
        check.due("publicNumber(2)", () -> here.publicNumber(2), 18);
    }

    /** By 31 the numbers 5 and 25 have the order 3. */
    private static void secretOfOne(Check check) {
        DomainKeys keys = new DomainKeys();
        keys.adopt(31, 5, 2);
        keys.key(0, 3);
        keys.key(1, 2);
        check.thrown("agree(0, 5)", () -> keys.agree(0, 5), ArithmeticException.class);
        check.thrown("agree(0, 25)", () -> keys.agree(0, 25), ArithmeticException.class);
        check.due("agree(1, 5)", () -> keys.agree(1, 5), 25);
        check.due("agree(1, 25)", () -> keys.agree(1, 25), 5);
        // By 31 the number 6 has the order 6: a secret of p - 1 is one.
        check.due("agree(0, 6)", () -> keys.agree(0, 6), 30);
        check.due("publicNumber(0)", () -> keys.publicNumber(0), 8);
    }

    private static void wrongCalls(Check check) {
        DomainKeys keys = new DomainKeys();
        check.thrown("agree(0, 0), no domain", () -> keys.agree(0, 0), NoSuchElementException.class);
        keys.adopt(23, 11, 4);
        check.thrown("agree(0, 0), no key", () -> keys.agree(0, 0), NoSuchElementException.class);
        keys.key(0, 2);
        for (int slot : new int[] {-1, 1, 7, 8, Integer.MAX_VALUE, Integer.MIN_VALUE}) {
            check.thrown("agree(" + slot + ", 2)", () -> keys.agree(slot, 2), NoSuchElementException.class);
            check.thrown("agree(" + slot + ", 1)", () -> keys.agree(slot, 1), NoSuchElementException.class);
        }
        // For 1 and 22 the secret would be 1 as well, but the range is named first.
        for (int peer : new int[] {1, 22, 0, -1, 23, 24, 25, Integer.MAX_VALUE, Integer.MIN_VALUE}) {
            check.thrown("agree(0, " + peer + ")", () -> keys.agree(0, peer), IllegalArgumentException.class);
        }
        check.due("agree(0, 2)", () -> keys.agree(0, 2), 4);
        check.due("agree(0, 21)", () -> keys.agree(0, 21), 4);
    }

    private static void largeNumbers(Check check) {
        int p = 2147483579;
        DomainKeys keys = new DomainKeys();
        keys.adopt(p, 1073741789, 4);
        keys.key(3, 1073741788);
        check.due("agree(3, p - 2)", () -> keys.agree(3, p - 2), 1073741789);
        check.due("agree(3, 1218529153)", () -> keys.agree(3, 1218529153), 894461708);
        check.thrown("agree(3, p - 1)", () -> keys.agree(3, p - 1), IllegalArgumentException.class);
    }
}
