import java.util.Random;

/** Promise 6 (product). */
public final class ProductTest {
    private static final long[] EDGES = {0, 1, -1, 2, Long.MIN_VALUE, Long.MAX_VALUE, Long.MIN_VALUE | 1};

    public static void main(String[] args) {
        told();
        edges();
        powers();
        random();
        Check.end();
    }

    /** From the second case of the paper by McGrew and Viega. */
    private static void told() {
        due(0x0388dace60b6a392L, 0xf328c2b971b2fe78L, 0x66e94bd4ef8a2c3bL, 0x884cfa59ca342b2eL,
                0x5e2ec74691706288L, 0x2c85b0685353deb7L);
        // x^127 times x is x^128, that is 1 + x + x^2 + x^7.
        due(0, 1, 1L << 62, 0, 0xe1L << 56, 0);
    }

    private static void edges() {
        for (long a : EDGES) {
            for (long b : EDGES) {
                for (long c : EDGES) {
                    for (long d : EDGES) {
                        asTheWords(a, b, c, d);
                    }
                }
                due(a, b, Long.MIN_VALUE, 0, a, b);
                due(a, b, 0, 0, 0, 0);
            }
        }
    }

    private static void powers() {
        for (int i = 0; i < 128; i++) {
            for (int j = 0; j < 128; j += 3) {
                asTheWords(powerHigh(i), powerLow(i), powerHigh(j), powerLow(j));
            }
        }
    }

    private static long powerHigh(int i) {
        return i < 64 ? Long.MIN_VALUE >>> i : 0;
    }

    private static long powerLow(int i) {
        return i < 64 ? 0 : Long.MIN_VALUE >>> (i - 64);
    }

    private static void random() {
        Random random = new Random(6);
        for (int run = 0; run < 2000; run++) {
            asTheWords(random.nextLong(), random.nextLong(), random.nextLong(), random.nextLong());
        }
    }

    private static void asTheWords(long a, long b, long c, long d) {
        byte[] product = Reference.product(Bytes.ofBlock(a, b), Bytes.ofBlock(c, d));
        due(a, b, c, d, Bytes.highestFirst(product, 0), Bytes.highestFirst(product, 8));
    }

    private static void due(long a, long b, long c, long d, long high, long low) {
        SealedStream x = new SealedStream();
        Check.same("6: product, HIGH", x.product(a, b, c, d, false), high);
        Check.same("6: product, LOW", x.product(a, b, c, d, true), low);
        Check.same("6: product the other way round, HIGH", x.product(c, d, a, b, false), high);
        Check.same("6: product the other way round, LOW", x.product(c, d, a, b, true), low);
    }
}
