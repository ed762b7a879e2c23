import java.util.Random;

/** Promises 4 (encrypt) and 5 (decrypt). */
public final class CipherTest {
    private static final long[] EDGES = {0, 1, -1, Long.MIN_VALUE, Long.MAX_VALUE, 0x80L, 0x0123456789abcdefL};

    public static void main(String[] args) {
        told();
        edges();
        random();
        disturbsNoMessage();
        Check.end();
    }

    /** FIPS 197, appendices B and C.1. */
    private static void told() {
        SealedStream x = new SealedStream();
        x.key(0x2b7e151628aed2a6L, 0xabf7158809cf4f3cL);
        bothWays(x, 0x3243f6a8885a308dL, 0x313198a2e0370734L, 0x3925841d02dc09fbL, 0xdc118597196a0b32L);
        x.key(0x0001020304050607L, 0x08090a0b0c0d0e0fL);
        bothWays(x, 0x0011223344556677L, 0x8899aabbccddeeffL, 0x69c4e0d86a7b0430L, 0xd8cdb78070b4c55aL);
    }

    private static void edges() {
        for (long keyHigh : EDGES) {
            for (long keyLow : EDGES) {
                SealedStream x = new SealedStream();
                x.key(keyHigh, keyLow);
                for (long high : EDGES) {
                    asTheLibrary(x, keyHigh, keyLow, high, keyLow ^ high);
                }
            }
        }
    }

    private static void random() {
        Random random = new Random(45);
        for (int run = 0; run < 2000; run++) {
            long keyHigh = random.nextLong();
            long keyLow = random.nextLong();
            SealedStream x = new SealedStream();
            x.key(keyHigh, keyLow);
            asTheLibrary(x, keyHigh, keyLow, random.nextLong(), random.nextLong());
        }
    }

    private static void asTheLibrary(SealedStream x, long keyHigh, long keyLow, long high, long low) {
        byte[] key = Bytes.ofBlock(keyHigh, keyLow);
        byte[] block = Bytes.ofBlock(high, low);
        byte[] sealed = Reference.encrypt(key, block);
        bothWays(x, high, low, Bytes.highestFirst(sealed, 0), Bytes.highestFirst(sealed, 8));
        byte[] opened = Reference.decrypt(key, block);
        bothWays(x, Bytes.highestFirst(opened, 0), Bytes.highestFirst(opened, 8), high, low);
    }

    private static void bothWays(SealedStream x, long high, long low, long otherHigh, long otherLow) {
        Check.same("4: encrypt, HIGH", x.encrypt(high, low, false), otherHigh);
        Check.same("4: encrypt, LOW", x.encrypt(high, low, true), otherLow);
        Check.same("5: decrypt, HIGH", x.decrypt(otherHigh, otherLow, false), high);
        Check.same("5: decrypt, LOW", x.decrypt(otherHigh, otherLow, true), low);
    }

    /** The calls of promises 3 to 6 may come in between without changing what a message becomes. */
    private static void disturbsNoMessage() {
        SealedStream x = new SealedStream();
        SealedStream calm = new SealedStream();
        x.start(false, 1, 2);
        calm.start(false, 1, 2);
        for (int piece = 0; piece < 12; piece++) {
            between(x, piece);
            Check.same("4 to 6: text after calls in between", x.text(piece, 7), calm.text(piece, 7));
        }
        between(x, 99);
        x.seal();
        calm.seal();
        between(x, 100);
        Check.same("4 to 6: phase after calls in between", x.phase(), SealedStream.SEALED);
        Check.same("4 to 6: tag after calls in between", x.tag(false), calm.tag(false));
        Check.same("4 to 6: tag after calls in between", x.tag(true), calm.tag(true));
        for (int i = 0; i < 84; i++) {
            Check.same("4 to 6: at after calls in between", x.at(i), calm.at(i));
        }
    }

    private static void between(SealedStream x, long n) {
        int phase = x.phase();
        int length = x.length();
        x.encrypt(n, -n, false);
        x.decrypt(n, n, true);
        x.product(n, 5, 6, n, true);
        x.word(7);
        x.at(3);
        Check.same("4 to 6: phase after calls in between", x.phase(), phase);
        Check.same("4 to 6: length after calls in between", x.length(), length);
    }
}
