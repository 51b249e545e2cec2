/** An object answers as due up to its 512th call, whatever the calls before it were. */
public final class CallsEdgesTest {
    private static final int CALLS = 512;

    public static void main(String[] args) {
        Check check = new Check();
        check.sentence("An object is used for at most 512 calls");
        manyMakings(check);
        manyDomains(check);
        manyKeys(check);
        manySignatures(check);
        manyRefusals(check);
        check.end();
    }

    private static void manyMakings(Check check) {
        DomainKeys keys = new DomainKeys();
        for (int call = 1; call < CALLS; call++) {
            keys.generate(call % 2 == 0 ? 5368 : 10);
        }
        check.due("call 512: candidate(0)", () -> keys.candidate(0), 2126623813);
    }

    private static void manyDomains(Check check) {
        DomainKeys keys = new DomainKeys();
        for (int call = 1; call < CALLS; call++) {
            keys.adopt(23, 11, call % 2 == 0 ? 2 : 4);
        }
        check.due("call 512: domain(2)", () -> keys.domain(2), 4);
    }

    private static void manyKeys(Check check) {
        DomainKeys keys = new DomainKeys();
        keys.adopt(23, 11, 4);
        for (int call = 2; call < CALLS; call++) {
            keys.key(call % 8, call % 10 + 1);
        }
        // The last key was that of call 511: the secret 2 in slot 7.
        check.due("call 512: publicNumber(7)", () -> keys.publicNumber(7), 16);
    }

    private static void manySignatures(Check check) {
        DomainKeys keys = new DomainKeys();
        keys.adopt(23, 11, 4);
        keys.key(0, 3);
        for (int call = 3; call < CALLS; call++) {
            check.due("call " + call + ": sign(0, 0, 1)", () -> keys.sign(0, 0, 1), 4 * 4294967296L + 1);
        }
        check.due("call 512: verify(18, 0, 4, 1)", () -> keys.verify(18, 0, 4, 1), true);
    }

    private static void manyRefusals(Check check) {
        DomainKeys keys = new DomainKeys();
        for (int call = 1; call < CALLS - 1; call++) {
            check.thrown("call " + call + ": key(0, 1)", () -> keys.key(0, 1), IllegalStateException.class);
        }
        check.done("call 511: adopt(23, 11, 4)", () -> keys.adopt(23, 11, 4));
        check.due("call 512: key(7, 10)", () -> keys.key(7, 10), 6);
    }
}
