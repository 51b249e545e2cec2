import java.math.BigInteger;
import java.util.NoSuchElementException;

/** The document once more, over BigInteger and with other means than the class that is tested. */
final class Reference {
    private static final BigInteger TWO_64 = BigInteger.ONE.shiftLeft(64);

    private long[] candidate = null;
    private int[] domain = null;
    private final Integer[] secrets = new Integer[8];

    private static BigInteger big(long number) {
        return BigInteger.valueOf(number);
    }

    private static BigInteger unsigned(long number) {
        return big(number).mod(TWO_64);
    }

    static BigInteger h(BigInteger a, long b) {
        BigInteger x = a.xor(big(1442695040888963407L)).multiply(big(6364136223846793005L)).add(big(b)).mod(TWO_64);
        x = x.xor(x.shiftRight(32));
        x = x.multiply(big(2862933555777941757L)).mod(TWO_64);
        return x.xor(x.shiftRight(29));
    }

    static boolean prime(long number) {
        return number > 1 && big(number).isProbablePrime(60);
    }

    static long pow(long base, long exponent, long modulus) {
        return big(base).modPow(big(exponent), big(modulus)).longValueExact();
    }

    static int order(long seed) {
        return 16385 + 2 * h(unsigned(seed), 0).shiftRight(51).intValueExact();
    }

    static int fieldTry(long seed, int q, int counter) {
        long x = 1073741824L + h(unsigned(seed), 1 + counter).shiftRight(34).longValueExact();
        return Math.toIntExact(x - x % (2L * q) + 1);
    }

    static long[] make(long seed) {
        int q = order(seed);
        if (!prime(q)) {
            return new long[] {-1};
        }
        for (int counter = 0; counter <= 63; counter++) {
            int p = fieldTry(seed, q, counter);
            if (p > 1073741824 && prime(p)) {
                return new long[] {p, q, seed, counter};
            }
        }
        return new long[] {-2};
    }

    static boolean fits(int p, int q, int y) {
        return 2 <= y && y <= p - 2 && pow(y, q, p) == 1;
    }

    static boolean verify(int p, int q, int g, long[] call) {
        long y = call[0];
        long r = call[2];
        long s = call[3];
        if (y < 1 || y > p - 1 || r < 1 || r > q - 1 || s < 1 || s > q - 1) {
            return false;
        }
        BigInteger w = big(s).modInverse(big(q));
        BigInteger a = w.multiply(big(z(call[1]))).mod(big(q));
        BigInteger b = w.multiply(big(r)).mod(big(q));
        BigInteger product = big(g).modPow(a, big(p)).multiply(big(y).modPow(b, big(p))).mod(big(p));
        return product.mod(big(q)).equals(big(r));
    }

    static int z(long message) {
        return h(unsigned(message), 3).shiftRight(49).intValueExact();
    }

    int generate(long seed) {
        long[] made = make(seed);
        if (made.length == 1) {
            return (int) made[0];
        }
        candidate = made;
        return (int) made[3];
    }

    long candidate(int what) {
        return candidate == null || what < 0 || what > 3 ? 0 : candidate[what];
    }

    int generator(int index) {
        if (candidate == null) {
            throw new IllegalStateException();
        }
        if (index < 0 || index > 255) {
            throw new IllegalArgumentException();
        }
        BigInteger p = big(candidate[0]);
        BigInteger inner = h(unsigned(candidate[2]), 100 + index);
        for (int count = 1; count <= 100; count++) {
            BigInteger w = h(inner, count).shiftRight(1).mod(p);
            int g = w.modPow(big((candidate[0] - 1) / candidate[1]), p).intValueExact();
            if (g > 1) {
                return g;
            }
        }
        return 1;
    }

    boolean valid(int p, int q, long seed, int counter) {
        long[] made = make(seed);
        return made.length == 4 && made[0] == p && made[1] == q && made[3] == counter;
    }

    void adopt(int p, int q, int g) {
        boolean right = prime(p) && prime(q) && q >= 3 && (p - 1) % q == 0 && 2 <= g && g <= p - 1
            && pow(g, q, p) == 1;
        if (!right) {
            throw new IllegalArgumentException();
        }
        domain = new int[] {p, q, g};
        java.util.Arrays.fill(secrets, null);
    }

    int domain(int what) {
        return domain == null || what < 0 || what > 2 ? 0 : domain[what];
    }

    private void needDomain() {
        if (domain == null) {
            throw new IllegalStateException();
        }
    }

    private int secret(int slot) {
        if (slot < 0 || slot > 7 || secrets[slot] == null) {
            throw new NoSuchElementException();
        }
        return secrets[slot];
    }

    int key(int slot, int x) {
        needDomain();
        if (slot < 0 || slot > 7) {
            throw new IndexOutOfBoundsException();
        }
        if (x < 1 || x > domain[1] - 1) {
            throw new IllegalArgumentException();
        }
        secrets[slot] = x;
        return publicNumber(slot);
    }

    int publicNumber(int slot) {
        int x = secret(slot);
        return (int) pow(domain[2], x, domain[0]);
    }

    void forget(int slot) {
        secret(slot);
        secrets[slot] = null;
    }

    boolean fits(int y) {
        needDomain();
        return fits(domain[0], domain[1], y);
    }

    int digest(long message) {
        return z(message);
    }

    long sign(int slot, long message, int k) {
        long x = secret(slot);
        int q = domain[1];
        if (k < 1 || k > q - 1) {
            throw new IllegalArgumentException();
        }
        long r = pow(domain[2], k, domain[0]) % q;
        BigInteger sum = big(x).multiply(big(r)).add(big(z(message)));
        long s = sum.multiply(big(k).modInverse(big(q))).mod(big(q)).longValueExact();
        if (r == 0 || s == 0) {
            throw new ArithmeticException();
        }
        return r * 4294967296L + s;
    }

    boolean verify(int y, long message, int r, int s) {
        needDomain();
        return verify(domain[0], domain[1], domain[2], new long[] {y, message, r, s});
    }

    int agree(int slot, int peer) {
        int x = secret(slot);
        if (peer < 2 || peer > domain[0] - 2) {
            throw new IllegalArgumentException();
        }
        int common = (int) pow(peer, x, domain[0]);
        if (common == 1) {
            throw new ArithmeticException();
        }
        return common;
    }
}
