import java.util.NoSuchElementException;

public final class DomainKeys {
    public static final int NO_ORDER = -1;
    public static final int NO_FIELD = -2;

    private static final int SLOTS = 8;
    private static final int COUNTERS = 64;
    private static final int INDICES = 256;
    private static final int GENERATOR_COUNTS = 100;
    private static final int FIELD_FLOOR = 1073741824;
    // The square of the next number is no int any more.
    private static final int LARGEST_ROOT = 46340;
    private static final int HIGHEST_BIT = 30;

    // No prime is 0, so a p of 0 says that there is no candidate or no domain.
    private int candidateP;
    private int candidateQ;
    private long candidateSeed;
    private int candidateCounter;

    private int domainP;
    private int domainQ;
    private int domainG;

    // No secret is 0, so a 0 says that the slot is without a key.
    private final int[] secrets;
    private final int[] publicNumbers;

    public DomainKeys() {
        secrets = new int[SLOTS];
        publicNumbers = new int[SLOTS];
    }

    public int generate(long seed) {
        int counter = counterFrom(seed);
        if (counter >= 0) {
            candidateQ = orderFrom(seed);
            candidateP = fieldTry(seed, candidateQ, counter);
            candidateSeed = seed;
            candidateCounter = counter;
        }
        return counter;
    }

    public long candidate(int what) {
        switch (what) {
            case 0: return candidateP;
            case 1: return candidateQ;
            case 2: return candidateSeed;
            case 3: return candidateCounter;
            default: return 0;
        }
    }

    public int generator(int index) throws IllegalStateException, IllegalArgumentException {
        if (candidateP == 0) {
            throw new IllegalStateException("no candidate");
        }
        if (index < 0 || index >= INDICES) {
            throw new IllegalArgumentException("index is not 0 .. 255");
        }
        long start = mix(candidateSeed, 100 + index);
        return generatorFrom(start, candidateP, (candidateP - 1) / candidateQ);
    }

    public boolean valid(int p, int q, long seed, int counter) {
        // Making that fails answers below 0, and no counter asked for may match that.
        return counter >= 0
            && q == orderFrom(seed)
            && counter == counterFrom(seed)
            && p == fieldTry(seed, q, counter);
    }

    public void adopt(int p, int q, int g) throws IllegalArgumentException {
        if (!isDomain(p, q, g)) {
            throw new IllegalArgumentException("no domain");
        }
        domainP = p;
        domainQ = q;
        domainG = g;
        for (int slot = 0; slot < SLOTS; slot++) {
            clearSlot(slot);
        }
    }

    public int domain(int what) {
        switch (what) {
            case 0: return domainP;
            case 1: return domainQ;
            case 2: return domainG;
            default: return 0;
        }
    }

    public int key(int slot, int x)
            throws IllegalStateException, IndexOutOfBoundsException, IllegalArgumentException {
        requireDomain();
        if (!isSlot(slot)) {
            throw new IndexOutOfBoundsException("slot is not 0 .. 7");
        }
        if (!isExponent(x)) {
            throw new IllegalArgumentException("secret is not 1 .. q - 1");
        }
        secrets[slot] = x;
        publicNumbers[slot] = power(domainG, x, domainP);
        return publicNumbers[slot];
    }

    public int publicNumber(int slot) throws NoSuchElementException {
        requireKey(slot);
        return publicNumbers[slot];
    }

    public void forget(int slot) throws NoSuchElementException {
        requireKey(slot);
        clearSlot(slot);
    }

    public boolean fits(int y) throws IllegalStateException {
        requireDomain();
        return isPeer(y) && power(y, domainQ, domainP) == 1;
    }

    public int digest(long message) {
        return (int) (mix(message, 3) >>> 49);
    }

    public long sign(int slot, long message, int k)
            throws NoSuchElementException, IllegalArgumentException, ArithmeticException {
        requireKey(slot);
        if (!isExponent(k)) {
            throw new IllegalArgumentException("k is not 1 .. q - 1");
        }
        long r = power(domainG, k, domainP) % domainQ;
        // Below 2^60 + 2^15: q divides p - 1 and both are odd primes, so q is below 2^30.
        long sum = digest(message) + secrets[slot] * r;
        long s = sum % domainQ * inverse(k, domainQ) % domainQ;
        if (r == 0 || s == 0) {
            throw new ArithmeticException("r or s is 0");
        }
        return (r << 32) + s;
    }

    public boolean verify(int y, long message, int r, int s) throws IllegalStateException {
        requireDomain();
        if (y < 1 || y >= domainP || !isExponent(r) || !isExponent(s)) {
            return false;
        }
        long w = inverse(s, domainQ);
        int a = (int) (digest(message) * w % domainQ);
        int b = (int) (r * w % domainQ);
        long product = (long) power(domainG, a, domainP) * power(y, b, domainP) % domainP;
        return r == product % domainQ;
    }

    public int agree(int slot, int peer)
            throws NoSuchElementException, IllegalArgumentException, ArithmeticException {
        requireKey(slot);
        if (!isPeer(peer)) {
            throw new IllegalArgumentException("peer is not 2 .. p - 2");
        }
        int secret = power(peer, secrets[slot], domainP);
        if (secret == 1) {
            throw new ArithmeticException("secret would be 1");
        }
        return secret;
    }

    private void requireDomain() throws IllegalStateException {
        if (domainP == 0) {
            throw new IllegalStateException("no domain");
        }
    }

    private void requireKey(int slot) throws NoSuchElementException {
        if (!isSlot(slot) || secrets[slot] == 0) {
            throw new NoSuchElementException("no key");
        }
    }

    private void clearSlot(int slot) {
        secrets[slot] = 0;
        publicNumbers[slot] = 0;
    }

    private boolean isExponent(int number) {
        return number >= 1 && number < domainQ;
    }

    private boolean isPeer(int number) {
        return number >= 2 && number <= domainP - 2;
    }

    private static boolean isSlot(int slot) {
        return slot >= 0 && slot < SLOTS;
    }

    private static boolean isDomain(int p, int q, int g) {
        if (q < 3 || g < 2 || g >= p) {
            return false;
        }
        return (p - 1) % q == 0 && isPrime(q) && isPrime(p) && power(g, q, p) == 1;
    }

    private static int counterFrom(long seed) {
        int q = orderFrom(seed);
        if (!isPrime(q)) {
            return NO_ORDER;
        }
        for (int counter = 0; counter < COUNTERS; counter++) {
            int p = fieldTry(seed, q, counter);
            if (p > FIELD_FLOOR && isPrime(p)) {
                return counter;
            }
        }
        return NO_FIELD;
    }

    private static int orderFrom(long seed) {
        return 16385 + 2 * (int) (mix(seed, 0) >>> 51);
    }

    // Always an int: X is at most 2^31 - 1, and only an even X has the remainder 0 and grows by 1.
    private static int fieldTry(long seed, int q, int counter) {
        long x = FIELD_FLOOR + (mix(seed, 1 + counter) >>> 34);
        return (int) (x - x % (2 * q) + 1);
    }

    private static int generatorFrom(long start, int p, int cofactor) {
        for (int count = 1; count <= GENERATOR_COUNTS; count++) {
            int w = (int) ((mix(start, count) >>> 1) % p);
            int g = power(w, cofactor, p);
            if (g > 1) {
                return g;
            }
        }
        return 1;
    }

    private static boolean isPrime(int number) {
        if (number < 2 || number % 2 == 0) {
            return number == 2;
        }
        for (int divisor = 3; divisor <= LARGEST_ROOT; divisor += 2) {
            if (divisor * divisor > number) {
                return true;
            }
            if (number % divisor == 0) {
                return false;
            }
        }
        return true;
    }

    // Every product here is below 2^62, because base and modulus are ints that are not negative.
    private static int power(int base, int exponent, int modulus) {
        long result = 1;
        for (int bit = HIGHEST_BIT; bit >= 0; bit--) {
            result = result * result % modulus;
            if (((exponent >>> bit) & 1) == 1) {
                result = result * base % modulus;
            }
        }
        return (int) result;
    }

    // By Fermat: a number that the prime does not divide has the remainder 1 to the power prime - 1.
    private static int inverse(int number, int prime) {
        return power(number, prime - 2, prime);
    }

    private static long mix(long a, long b) {
        long x = (a ^ 1442695040888963407L) * 6364136223846793005L + b;
        x = x ^ (x >>> 32);
        x = x * 2862933555777941757L;
        return x ^ (x >>> 29);
    }
}
