import java.util.Random;

/** Runs of 512 calls on new objects, with the answers of the reference as the ones that are due. */
public final class RandomRunsTest {
    private static final int RUNS = 150;
    private static final int CALLS = 512;
    private static final int[][] DOMAINS = {
        {7, 3, 2}, {11, 5, 3}, {23, 11, 4}, {31, 5, 2}, {31, 3, 5}, {43, 7, 4}, {1019, 509, 4},
        {2147483647, 331, 272122089}, {2147483579, 1073741789, 4},
    };
    private static final long[] SEEDS = {10, 14, 17, -6, Long.MAX_VALUE, 5368, 25487, 741756, 1114571, 444};

    private final Check check;
    private final Random random;
    private DomainKeys keys;
    private Reference reference;
    private int calls;

    private RandomRunsTest(Check check, Random random) {
        this.check = check;
        this.random = random;
    }

    public static void main(String[] args) {
        Check check = new Check();
        for (int run = 0; run < RUNS; run++) {
            new RandomRunsTest(check, new Random(run)).run(run);
        }
        check.end();
    }

    private void run(int run) {
        keys = new DomainKeys();
        reference = new Reference();
        calls = 0;
        while (calls < CALLS) {
            someCalls("run " + run + ", from call " + (calls + 1) + ": ");
        }
    }

    private void someCalls(String where) {
        switch (random.nextInt(16)) {
            case 0 -> makeOrRead(where);
            case 1 -> readGenerator(where);
            case 2 -> validate(where);
            case 3 -> adopt(where);
            case 4 -> readDomain(where);
            case 5, 6, 7 -> setKey(where);
            case 8 -> readSlot(where);
            case 9 -> fit(where);
            case 10, 11 -> sign(where);
            case 12, 13 -> verify(where);
            default -> agree(where);
        }
    }

    // What an object answers after its 512th call is free.
    private void compare(String call, Check.Call got, Check.Call want) {
        if (calls < CALLS) {
            calls++;
            check.compare(call, Check.outcome(got), Check.outcome(want));
        }
    }

    private void compareChange(String call, Check.Change got, Check.Change want) {
        if (calls < CALLS) {
            calls++;
            check.compare(call, Check.outcome(got), Check.outcome(want));
        }
    }

    private long seed() {
        return random.nextBoolean() ? SEEDS[random.nextInt(SEEDS.length)] : random.nextLong();
    }

    private int slot() {
        return random.nextInt(12) == 0 ? edge() : random.nextInt(4) * 2 + random.nextInt(3) - 1;
    }

    private int edge() {
        int[] edges = {-1, 0, 1, 2, 8, Integer.MAX_VALUE, Integer.MIN_VALUE};
        return edges[random.nextInt(edges.length)];
    }

    private int upTo(int bound) {
        return switch (random.nextInt(10)) {
            case 0 -> edge();
            case 1 -> bound - 2 + random.nextInt(4);
            default -> bound > 1 ? 1 + random.nextInt(bound - 1) : random.nextInt();
        };
    }

    private void makeOrRead(String where) {
        long seed = seed();
        compare(where + "generate(" + seed + ")", () -> keys.generate(seed), () -> reference.generate(seed));
        for (int what = -1; what <= 4; what++) {
            int asked = what;
            compare(where + "candidate(" + what + ")",
                () -> keys.candidate(asked), () -> reference.candidate(asked));
        }
    }

    private void readGenerator(String where) {
        int index = random.nextInt(8) == 0 ? 255 + random.nextInt(2) : random.nextInt(260) - 2;
        compare(where + "generator(" + index + ")",
            () -> keys.generator(index), () -> reference.generator(index));
    }

    private void validate(String where) {
        boolean own = random.nextBoolean();
        long seed = own ? reference.candidate(2) : seed();
        long[] made = Reference.make(seed);
        boolean full = made.length == 4;
        int p = (full ? (int) made[0] : random.nextInt()) + nudge();
        int q = (full ? (int) made[1] : Reference.order(seed)) + nudge();
        int counter = (full ? (int) made[3] : (int) made[0]) + nudge();
        compare(where + "valid(" + p + ", " + q + ", " + seed + ", " + counter + ")",
            () -> keys.valid(p, q, seed, counter), () -> reference.valid(p, q, seed, counter));
    }

    private int nudge() {
        return random.nextInt(5) == 0 ? random.nextInt(3) - 1 : 0;
    }

    private void adopt(String where) {
        // Most of the time a domain stays, so that keys gather in it.
        if (random.nextInt(3) != 0 && reference.domain(0) != 0) {
            return;
        }
        int[] numbers = DOMAINS[random.nextInt(DOMAINS.length)];
        boolean made = reference.candidate(0) != 0 && random.nextInt(3) == 0;
        int p = (made ? (int) reference.candidate(0) : numbers[0]) + nudge();
        int q = (made ? (int) reference.candidate(1) : numbers[1]) + nudge();
        int g = (made ? reference.generator(random.nextInt(256)) : numbers[2]) + nudge();
        compareChange(where + "adopt(" + p + ", " + q + ", " + g + ")",
            () -> keys.adopt(p, q, g), () -> reference.adopt(p, q, g));
    }

    private void readDomain(String where) {
        for (int what = -1; what <= 3; what++) {
            int asked = what;
            compare(where + "domain(" + what + ")", () -> keys.domain(asked), () -> reference.domain(asked));
        }
    }

    private void setKey(String where) {
        int slot = slot();
        int x = upTo(reference.domain(1));
        compare(where + "key(" + slot + ", " + x + ")", () -> keys.key(slot, x), () -> reference.key(slot, x));
    }

    private void readSlot(String where) {
        int slot = slot();
        compare(where + "publicNumber(" + slot + ")",
            () -> keys.publicNumber(slot), () -> reference.publicNumber(slot));
        if (random.nextInt(3) == 0) {
            compareChange(where + "forget(" + slot + ")",
                () -> keys.forget(slot), () -> reference.forget(slot));
        }
    }

    private void fit(String where) {
        int y = upTo(reference.domain(0));
        compare(where + "fits(" + y + ")", () -> keys.fits(y), () -> reference.fits(y));
    }

    private void sign(String where) {
        int slot = slot();
        long message = random.nextLong();
        int k = upTo(reference.domain(1));
        compare(where + "digest(" + message + ")", () -> keys.digest(message), () -> reference.digest(message));
        compare(where + "sign(" + slot + ", " + message + ", " + k + ")",
            () -> keys.sign(slot, message, k), () -> reference.sign(slot, message, k));
    }

    private void verify(String where) {
        int y = upTo(reference.domain(0));
        long message = random.nextInt(10);
        int r = upTo(reference.domain(1));
        int s = upTo(reference.domain(1));
        compare(where + "verify(" + y + ", " + message + ", " + r + ", " + s + ")",
            () -> keys.verify(y, message, r, s), () -> reference.verify(y, message, r, s));
        verifyOwnSignature(where, slot(), message);
    }

    private void verifyOwnSignature(String where, int slot, long message) {
        int k = upTo(reference.domain(1));
        String signed = Check.outcome(() -> reference.sign(slot, message, k));
        if (signed.startsWith("throws.")) {
            return;
        }
        long signature = Long.parseLong(signed);
        int r = (int) (signature >>> 32);
        int s = (int) signature;
        int y = reference.publicNumber(slot);
        compare(where + "verify of sign(" + slot + ", " + message + ", " + k + ")",
            () -> keys.verify(y, message, r, s), () -> true);
    }

    private void agree(String where) {
        int slot = slot();
        int peer = upTo(reference.domain(0));
        compare(where + "agree(" + slot + ", " + peer + ")",
            () -> keys.agree(slot, peer), () -> reference.agree(slot, peer));
    }
}
