/** The edges of promise 7. */
public final class DomainEdgesTest {
    public static void main(String[] args) {
        Check check = new Check();
        firstAndLastWhat(check);
        noneOfThese(check);
        noDomain(check);
        asksAndChangesNothing(check);
        check.end();
    }

    private static void firstAndLastWhat(Check check) {
        check.sentence("0 its p, 1 its q, 2 its g");
        DomainKeys keys = Fixture.withDomain();
        check.due("domain(0)", () -> keys.domain(0), 23);
        check.due("domain(1)", () -> keys.domain(1), 11);
        check.due("domain(2)", () -> keys.domain(2), 4);
        keys.adopt(2147483647, 3, 1513477735);
        check.due("domain(0) of the greatest", () -> keys.domain(0), 2147483647);
        check.due("domain(1) of the greatest", () -> keys.domain(1), 3);
        check.due("domain(2) of the greatest", () -> keys.domain(2), 1513477735);
    }

    private static void noneOfThese(Check check) {
        check.sentence("0 when what is none of these");
        DomainKeys keys = Fixture.withKeys();
        for (int what : Fixture.outside(0, 2)) {
            check.due("domain(" + what + ")", () -> keys.domain(what), 0);
        }
    }

    private static void noDomain(Check check) {
        check.sentence("0 when there is none");
        DomainKeys fresh = new DomainKeys();
        // A candidate is no domain in use, nor are numbers that were refused.
        DomainKeys candidate = Fixture.withCandidate();
        check.refused("adopt(23, 11, 1)", () -> candidate.adopt(23, 11, 1), IllegalArgumentException.class);
        for (int what = -1; what <= 3; what++) {
            int asked = what;
            check.due("domain(" + what + ") of a new object", () -> fresh.domain(asked), 0);
            check.due("domain(" + what + "), a candidate alone", () -> candidate.domain(asked), 0);
        }
    }

    private static void asksAndChangesNothing(Check check) {
        check.sentence("Of the domain in use");
        DomainKeys keys = Fixture.withKeys();
        String before = Fixture.picture(keys);
        for (int what = -1; what <= 3; what++) {
            keys.domain(what);
        }
        check.compare("what is seen after asking", Fixture.picture(keys), before);
    }
}
