/** The edges of promise 12 and of H. The rows were found by a separate program. */
public final class DigestEdgesTest {
    public static void main(String[] args) {
        Check check = new Check();
        productAndSumThatWrap(check);
        shiftsOfNegativeLongs(check);
        leastAndGreatest(check);
        messagesAtTheEndsOfLong(check);
        inEveryState(check);
        check.end();
    }

    private static void is(Check check, long message, int want) {
        check.due("digest(" + message + ")", () -> new DomainKeys().digest(message), want);
    }

    private static void productAndSumThatWrap(Check check) {
        check.sentence("H(a, b), for longs that wrap");
        // The sum is the greatest long, it wraps to the least, it wraps and goes on by 2.
        is(check, 7612555194393484323L, 7699);
        is(check, 3043670375604029278L, 25068);
        is(check, -6094097046274943468L, 2471);
        // The sum is -3, -1, 0, 1, 2, and 3 because the product is 0.
        is(check, 7526950570812018029L, 25570);
        is(check, -1610816842461291485L, 15399);
        is(check, -6179701661250746530L, 0);
        is(check, 7698159809637658617L, 5085);
        is(check, 3129274990579832340L, 10171);
        is(check, 1442695040888963407L, 15256);
    }

    private static void shiftsOfNegativeLongs(Check check) {
        check.sentence("x ^ (x >>> 32)");
        // The sum is 2^32 - 1 and 2^32; the second factor is -1.
        is(check, 2610700160520477731L, 12282);
        is(check, -1958184641089108130L, 22453);
        is(check, -1442695040888963408L, 13567);
    }

    private static void leastAndGreatest(Check check) {
        check.sentence("z is H(message, 3) >>> 49");
        // H is 0, 2^49 - 1, 2^49.
        is(check, -6179701661250746530L, 0);
        is(check, -6837814638932227351L, 0);
        is(check, -6606685603566954856L, 1);
        // H is the greatest long, the least long.
        is(check, 2210671380430057874L, 16383);
        is(check, -3824856036501173317L, 16384);
        // H is -2^49 - 1, -2^49, -1.
        is(check, -968146976064975560L, 32766);
        is(check, 8361148971519763679L, 32767);
        is(check, 6683971088114980557L, 32767);
    }

    private static void messagesAtTheEndsOfLong(Check check) {
        check.sentence("The z of a message (a long)");
        is(check, 0, 31361);
        is(check, -1, 21244);
        is(check, Long.MAX_VALUE, 28944);
        is(check, Long.MIN_VALUE, 6293);
    }

    private static void inEveryState(Check check) {
        check.sentence("The z of a message");
        DomainKeys[] states = {
            new DomainKeys(), Fixture.withCandidate(), Fixture.withDomain(), Fixture.withKeys(),
        };
        for (DomainKeys keys : states) {
            String before = Fixture.picture(keys);
            check.due("digest(0)", () -> keys.digest(0), 31361);
            check.due("digest(0) again", () -> keys.digest(0), 31361);
            check.compare("what is seen after it", Fixture.picture(keys), before);
        }
    }
}
