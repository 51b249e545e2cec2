/** The edges of promise 3. */
public final class CandidateEdgesTest {
    private static final int[] NONE_OF_THESE = {-1, 4, Integer.MIN_VALUE, Integer.MAX_VALUE};

    public static void main(String[] args) {
        Check check = new Check();
        firstAndLastWhat(check);
        noneOfThese(check);
        noCandidate(check);
        seedsThatAreNoInts(check);
        asksAndChangesNothing(check);
        check.end();
    }

    private static void firstAndLastWhat(Check check) {
        check.sentence("0 its p, 1 its q, 2 its seed, 3 its counter");
        DomainKeys keys = Fixture.withCandidate();
        check.due("candidate(0)", () -> keys.candidate(0), 2126623813);
        check.due("candidate(1)", () -> keys.candidate(1), 22567);
        check.due("candidate(2)", () -> keys.candidate(2), 10);
        check.due("candidate(3)", () -> keys.candidate(3), 12);
    }

    private static void noneOfThese(Check check) {
        check.sentence("0 when what is none of these");
        DomainKeys keys = Fixture.withCandidate();
        for (int what : NONE_OF_THESE) {
            check.due("candidate(" + what + ")", () -> keys.candidate(what), 0);
        }
    }

    private static void noCandidate(Check check) {
        check.sentence("0 when there is no candidate");
        DomainKeys fresh = new DomainKeys();
        // A domain is no candidate, nor is what was asked for with valid.
        DomainKeys domain = Fixture.withDomain();
        domain.valid(2126623813, 22567, 10, 12);
        for (int what = -1; what <= 4; what++) {
            int asked = what;
            check.due("candidate(" + what + ") of a new object", () -> fresh.candidate(asked), 0);
            check.due("candidate(" + what + "), a domain alone", () -> domain.candidate(asked), 0);
        }
    }

    private static void seedsThatAreNoInts(Check check) {
        check.sentence("2 its seed");
        for (long seed : new long[] {Long.MAX_VALUE, -6, 2110657073067079188L, -5865801996611604487L}) {
            DomainKeys keys = new DomainKeys();
            keys.generate(seed);
            check.due("candidate(2) of seed " + seed, () -> keys.candidate(2), seed);
        }
    }

    private static void asksAndChangesNothing(Check check) {
        check.sentence("Of the candidate");
        DomainKeys keys = Fixture.withKeys();
        String before = Fixture.picture(keys);
        for (int what = -1; what <= 4; what++) {
            keys.candidate(what);
        }
        check.compare("what is seen after asking", Fixture.picture(keys), before);
    }
}
