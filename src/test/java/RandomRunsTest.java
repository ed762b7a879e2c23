import java.io.ByteArrayOutputStream;
import java.util.Random;

/** All promises together: random runs against a model on the Java library. */
public final class RandomRunsTest {
    private static final int[] COUNTS = {0, 1, 2, 3, 4, 5, 6, 7, 8, 8, 8, 8, 8, 8, 8, -1, 9, Integer.MIN_VALUE, Integer.MAX_VALUE};

    private final Random random;
    private final SealedStream x = new SealedStream();
    private byte[] key = new byte[16];
    private byte[] nonce;
    private boolean opens;
    private int phase = SealedStream.NONE;
    private final ByteArrayOutputStream aside = new ByteArrayOutputStream();
    /** What text was given. */
    private final ByteArrayOutputStream given = new ByteArrayOutputStream();

    private RandomRunsTest(long seed) {
        random = new Random(seed);
    }

    public static void main(String[] args) {
        for (int seed = 0; seed < 2000; seed++) {
            RandomRunsTest run = new RandomRunsTest(seed);
            // With what look asks behind each call, an object gets at most 512 calls.
            for (int call = 0; call < 100; call++) {
                run.call();
                run.look();
            }
        }
        Check.end();
    }

    private void call() {
        switch (random.nextInt(40)) {
            case 0 -> newKey();
            case 1, 2 -> start();
            case 3 -> word();
            case 4 -> encrypt();
            case 5 -> decrypt();
            case 6 -> product();
            case 7, 8 -> seal();
            case 9, 10 -> open();
            case 11, 12 -> tag();
            default -> {
                if (phase == SealedStream.ASIDE ? random.nextInt(4) > 0 : random.nextInt(12) == 0) {
                    aside();
                } else if (underWay() || random.nextInt(4) == 0) {
                    text();
                } else {
                    start();
                }
            }
        }
    }

    private boolean underWay() {
        return phase == SealedStream.ASIDE || phase == SealedStream.TEXT;
    }

    /** The sealed text of what was given, be it the text or the sealed text (the mask works both ways). */
    private byte[] masked() {
        return Reference.withoutTag(Reference.seal(key, nonce, new byte[0], given.toByteArray()));
    }

    private byte[] sealedAndTag() {
        byte[] text = opens ? masked() : given.toByteArray();
        return Reference.seal(key, nonce, aside.toByteArray(), text);
    }

    private void look() {
        Check.same("15: phase", x.phase(), phase);
        Check.same("13: length", x.length(), given.size());
        int i = random.nextInt(100) - 2;
        boolean shown = phase == SealedStream.OPENED || phase == SealedStream.SEALED || underWay() && !opens;
        Check.same("14: at", x.at(i), shown && i >= 0 && i < given.size() ? masked()[i] & 255 : -1);
    }

    private void newKey() {
        long high = random.nextLong();
        long low = random.nextLong();
        x.key(high, low);
        key = Bytes.ofBlock(high, low);
        phase = SealedStream.NONE;
        given.reset();
    }

    private void start() {
        long head = random.nextLong();
        int rest = random.nextInt();
        opens = random.nextBoolean();
        x.start(opens, head, rest);
        nonce = Bytes.ofNonce(head, rest);
        phase = SealedStream.ASIDE;
        aside.reset();
        given.reset();
    }

    private void word() {
        int i = random.nextInt(50) - 3;
        if (i < 0 || i > 43) {
            Check.index("3: word", () -> x.word(i));
        } else if (i < 4) {
            Check.same("3: word", x.word(i), (int) (Bytes.highestFirst(key, i / 2 * 8) >> (i % 2 == 0 ? 32 : 0)));
        } else if (i % 4 != 0) {
            Check.same("3: word", x.word(i), x.word(i - 4) ^ x.word(i - 1));
        }
    }

    private void encrypt() {
        byte[] block = Bytes.random(random, 16);
        boolean second = random.nextBoolean();
        Check.same("4: encrypt", x.encrypt(Bytes.highestFirst(block, 0), Bytes.highestFirst(block, 8), second),
                Bytes.highestFirst(Reference.encrypt(key, block), second ? 8 : 0));
    }

    private void decrypt() {
        byte[] block = Bytes.random(random, 16);
        boolean second = random.nextBoolean();
        Check.same("5: decrypt", x.decrypt(Bytes.highestFirst(block, 0), Bytes.highestFirst(block, 8), second),
                Bytes.highestFirst(Reference.decrypt(key, block), second ? 8 : 0));
    }

    private void product() {
        byte[] a = Bytes.random(random, 16);
        byte[] b = Bytes.random(random, 16);
        boolean second = random.nextBoolean();
        Check.same("6: product", x.product(Bytes.highestFirst(a, 0), Bytes.highestFirst(a, 8),
                Bytes.highestFirst(b, 0), Bytes.highestFirst(b, 8), second),
                Bytes.highestFirst(Reference.product(a, b), second ? 8 : 0));
    }

    private void aside() {
        int n = COUNTS[random.nextInt(COUNTS.length)];
        long bytes = random.nextLong();
        if (phase != SealedStream.ASIDE) {
            Check.state("8: aside", () -> x.aside(bytes, n));
        } else if (n < 0 || n > 8) {
            Check.argument("8: aside", () -> x.aside(bytes, n));
        } else if (aside.size() + n > 48) {
            Check.unsupported("8: aside", () -> x.aside(bytes, n));
        } else {
            take(aside, bytes, n);
            Check.same("8: aside", x.aside(bytes, n), aside.size());
        }
    }

    private void text() {
        int n = COUNTS[random.nextInt(COUNTS.length)];
        long bytes = random.nextLong();
        if (!underWay()) {
            Check.state("9: text", () -> x.text(bytes, n));
        } else if (n < 0 || n > 8) {
            Check.argument("9: text", () -> x.text(bytes, n));
        } else if (given.size() + n > 96) {
            Check.unsupported("9: text", () -> x.text(bytes, n));
        } else {
            phase = SealedStream.TEXT;
            take(given, bytes, n);
            long due = opens ? 0 : Bytes.piece(masked(), given.size() - n, n, 0);
            Check.same("9: text", x.text(bytes, n), due);
        }
    }

    private static void take(ByteArrayOutputStream bytes, long piece, int n) {
        for (int k = 0; k < n; k++) {
            bytes.write((int) (piece >> 8 * k));
        }
    }

    private void seal() {
        if (!underWay() || opens) {
            Check.state("10: seal", x::seal);
        } else {
            phase = SealedStream.SEALED;
            Check.same("10: seal", x.seal(), given.size());
        }
    }

    private void open() {
        if (!underWay() || !opens) {
            Check.state("11: open", () -> x.open(0, 0));
            return;
        }
        byte[] due = sealedAndTag();
        boolean right = random.nextInt(4) > 0;
        long high = Reference.tagHigh(due);
        long low = Reference.tagLow(due);
        if (!right) {
            long changed = 1L << random.nextInt(64);
            high ^= random.nextBoolean() ? changed : 0;
            low ^= high == Reference.tagHigh(due) ? changed : 0;
        }
        phase = right ? SealedStream.OPENED : SealedStream.REFUSED;
        Check.same("11: open", x.open(high, low), right);
    }

    private void tag() {
        if (phase != SealedStream.SEALED) {
            Check.state("12: tag", () -> x.tag(false));
        } else {
            byte[] due = sealedAndTag();
            Check.same("12: tag, HIGH", x.tag(false), Reference.tagHigh(due));
            Check.same("12: tag, LOW", x.tag(true), Reference.tagLow(due));
        }
    }
}
