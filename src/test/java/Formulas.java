import java.math.BigInteger;

/** The document's formulas, with wrap-around said by a modulus, so that they share nothing with the program. */
final class Formulas {
    private static final BigInteger ROUND = BigInteger.ONE.shiftLeft(64);
    private static final BigInteger FACTOR = new BigInteger("6364136223846793005");
    private static final BigInteger ADDEND = new BigInteger("1442695040888963407");

    private Formulas() {
    }

    static long mix(long a, long b) {
        BigInteger t = BigInteger.valueOf(a).xor(BigInteger.valueOf(b)).multiply(FACTOR).add(ADDEND).mod(ROUND);
        return t.xor(t.shiftRight(29)).longValue();
    }

    /** The chain after these secrets. */
    static long chain(long... secrets) {
        long chain = 0;
        for (long s : secrets) {
            chain = mix(mix(chain, 3), s);
        }
        return chain;
    }

    static long sendingSecret(int end, long... secrets) {
        return mix(chain(secrets), 4 + end);
    }

    static long receivingSecret(int end, long... secrets) {
        return mix(chain(secrets), 5 - end);
    }

    /** The payload of a record whose inner bytes are these, sealed with the secret and the count n. */
    static int[] payload(long secret, int n, int... inner) {
        int m = inner.length;
        int[] payload = new int[m + 8];
        long tag = mix(mix(mix(secret, 2), n), m);
        for (int i = 0; i < m; i++) {
            long mask = mix(mix(mix(secret, 1), n), i);
            payload[i] = inner[i] ^ (int) ((mask >>> 40) & 255L);
            tag = mix(tag, payload[i]);
        }
        for (int i = 0; i < 8; i++) {
            payload[m + i] = (int) ((tag >>> (56 - 8 * i)) & 255L);
        }
        return payload;
    }
}
