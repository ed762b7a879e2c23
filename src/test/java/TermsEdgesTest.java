import java.util.Arrays;

/** The boundary cases that the document names in 'What it is' and in 'Terms', a test for each. */
public final class TermsEdgesTest {
    private static final long KEY_HIGH = 0x8000000000000001L;
    private static final long KEY_LOW = 0x7fffffffffffff80L;
    private static final byte[] KEY = Bytes.ofBlock(KEY_HIGH, KEY_LOW);
    private static final long[] EDGES = {0, -1, 1, Long.MIN_VALUE, Long.MAX_VALUE, 0xffL << 56, 0x5353535353535353L};
    private static final int[] REST_EDGES = {0, 1, -1, Integer.MIN_VALUE, Integer.MAX_VALUE};
    /** A key, a start, 6 pieces aside, 12 of the text, the end, and the tag's halves. */
    private static final int CALLS_OF_LONGEST = 1 + 1 + 6 + 12 + 1 + 2;

    public static void main(String[] args) {
        Check.test("used for at most 512 calls: all of a kind", TermsEdgesTest::calls512OfAKind);
        Check.test("used for at most 512 calls: messages of the greatest length", TermsEdgesTest::calls512OfLongest);
        Check.test("used for at most 512 calls: refused ones", TermsEdgesTest::calls512Refused);
        Check.test("MUL: less as many times as it takes of x^8 + x^4 + x^3 + x + 1", TermsEdgesTest::lessAsManyTimes);
        Check.test("SUBST: (0 if b is 0)", TermsEdgesTest::substOfZero);
        Check.test("SUBST: (modulo 8)", TermsEdgesTest::substOfEveryByte);
        Check.test("BLOCK: HIGH has the first eight, its highest byte being the first", TermsEdgesTest::firstAndLastBit);
        Check.test("WORDS: W(0) .. W(3) are the key's bytes in order", TermsEdgesTest::keyBytesInOrder);
        Check.test("WORDS: for i from 4 to 43", TermsEdgesTest::wordsFrom4To43);
        Check.test("WORDS: (the first becomes the last)", TermsEdgesTest::firstBecomesLast);
        Check.test("ENCRYPT: modulo 4", TermsEdgesTest::oneByteAtEachPlace);
        Check.test("ENCRYPT: but for j = 10", TermsEdgesTest::noMixAtTheEnd);
        Check.test("DECRYPT of a block is the one whose ENCRYPT it is", TermsEdgesTest::whoseEncryptItIs);
        Check.test("PRODUCT: the highest bit of the first byte stands for 1", TermsEdgesTest::productsWithOneAndNone);
        Check.test("PRODUCT: the next one for x, and so on, the lowest of the last for x^127", TermsEdgesTest::productsOfPowers);
        Check.test("PRODUCT: bits are added without carry", TermsEdgesTest::productWithoutCarry);
        Check.test("PRODUCT: modulo x^128 + x^7 + x^2 + x + 1", TermsEdgesTest::productsBeyondX127);
        Check.test("MESSAGE: a NONCE of 12 bytes", TermsEdgesTest::edgesOfTheNonce);
        Check.test("MESSAGE: ASIDE bytes, at most 48, and a TEXT, at most 96", TermsEdgesTest::fullMessage);
        Check.test("MESSAGE: MASK byte i (from 0) is byte i modulo 16", TermsEdgesTest::everyMaskByte);
        Check.test("MESSAGE: the number 2 + i / 16 (rounded down; the highest byte first)", TermsEdgesTest::everyMaskBlock);
        Check.test("MESSAGE: changed byte by byte by exclusive or with the mask", TermsEdgesTest::textUnderTheMask);
        Check.test("TAG: for each block of the aside bytes (the last one filled up with zeros), each of the sealed text, likewise",
                TermsEdgesTest::filledUpWithZeros);
        Check.test("TAG: for each block, when there is none", TermsEdgesTest::noBlocks);
        Check.test("TAG: how many bits the aside bytes are (as HIGH)", TermsEdgesTest::bitsOfTheAside);
        Check.test("TAG: and the sealed text is (as LOW)", TermsEdgesTest::bitsOfTheText);
        Check.test("PHASES: NONE (0); ASIDE (1) and TEXT (2); SEALED (3), OPENED (4), REFUSED (5)", TermsEdgesTest::phases);
        Check.test("Where bytes are given in a long, they are its n lowest, the lowest first", TermsEdgesTest::nLowest);
        Check.end();
    }

    private static SealedStream keyed() {
        SealedStream x = new SealedStream();
        x.key(KEY_HIGH, KEY_LOW);
        return x;
    }

    private static byte[] filled(int count, int b) {
        byte[] bytes = new byte[count];
        Arrays.fill(bytes, (byte) b);
        return bytes;
    }

    private static void calls512OfAKind() {
        SealedStream x = new SealedStream();
        x.start(false, 1, 2);
        for (int call = 2; call <= 512; call++) {
            Check.same("aside of nothing as call " + call, x.aside(-1, 0), 0);
        }
        SealedStream y = new SealedStream();
        for (int call = 1; call < 512; call++) {
            y.start(call % 2 == 0, call, call);
        }
        Check.same("phase as call 512", y.phase(), SealedStream.ASIDE);
    }

    private static void calls512OfLongest() {
        SealedStream x = new SealedStream();
        int calls = 0;
        for (; (512 - calls) % CALLS_OF_LONGEST != 0; calls++) {
            Check.same("phase", x.phase(), SealedStream.NONE);
        }
        for (; calls < 512; calls += CALLS_OF_LONGEST) {
            longest(x, calls);
        }
    }

    private static void longest(SealedStream x, long number) {
        byte[] aside = filled(48, 0xa5);
        byte[] text = filled(96, 0x5a);
        byte[] due = Reference.seal(Bytes.ofBlock(number, -number), Bytes.ofNonce(number, 3), aside, text);
        x.key(number, -number);
        x.start(false, number, 3);
        for (int held = 0; held < 48; held += 8) {
            Check.same("aside", x.aside(Bytes.piece(aside, held, 8, 0), 8), held + 8);
        }
        for (int held = 0; held < 96; held += 8) {
            Check.same("text", x.text(Bytes.piece(text, held, 8, 0), 8), Bytes.piece(due, held, 8, 0));
        }
        Check.same("seal", x.seal(), 96);
        sameTag("the longest", x, due);
    }

    private static void sameTag(String what, SealedStream x, byte[] due) {
        Check.same(what + ": tag, HIGH", x.tag(false), Reference.tagHigh(due));
        Check.same(what + ": tag, LOW", x.tag(true), Reference.tagLow(due));
    }

    private static void calls512Refused() {
        SealedStream x = new SealedStream();
        for (int call = 1; call < 512; call++) {
            switch (call % 6) {
                case 0 -> Check.state("seal", x::seal);
                case 1 -> Check.state("open", () -> x.open(1, 2));
                case 2 -> Check.state("tag", () -> x.tag(true));
                case 3 -> Check.state("aside", () -> x.aside(1, 8));
                case 4 -> Check.state("text", () -> x.text(1, 8));
                default -> Check.index("word", () -> x.word(44));
            }
        }
        Check.same("encrypt as call 512", x.encrypt(0, 0, false), 0x66e94bd4ef8a2c3bL);
    }

    /** R(9) is the first one for which MUL goes beyond eight bits. */
    private static void lessAsManyTimes() {
        int[] due = {1, 2, 4, 8, 16, 32, 64, 128, 0x1b, 0x36};
        SealedStream x = keyed();
        for (int j = 1; j <= 10; j++) {
            int first = Reference.subst(x.word(4 * j - 1) >>> 16 & 255);
            int r = (x.word(4 * j) ^ x.word(4 * j - 4)) >>> 24 ^ first;
            Check.same("R(" + j + ")", r, due[j - 1]);
        }
    }

    private static void substOfZero() {
        SealedStream x = keyed();
        x.key(0, 0);
        Check.same("word(4)", x.word(4), (99 ^ 1) << 24 | 99 << 16 | 99 << 8 | 99);
    }

    private static void substOfEveryByte() {
        for (int b = 0; b < 256; b++) {
            SealedStream x = new SealedStream();
            x.key(0, b * 0x01010101L);
            int s = Reference.subst(b);
            Check.same("word(4) from " + b, x.word(4), (s ^ 1) << 24 | s << 16 | s << 8 | s);
        }
    }

    private static void firstAndLastBit() {
        byte[] key = Bytes.hex("2b7e151628aed2a6abf7158809cf4f3c");
        SealedStream x = new SealedStream();
        x.key(0x2b7e151628aed2a6L, 0xabf7158809cf4f3cL);
        byte[] first = Reference.encrypt(key, Bytes.hex("80000000000000000000000000000000"));
        byte[] last = Reference.encrypt(key, Bytes.hex("00000000000000000000000000000001"));
        Check.same("encrypt of the first bit, HIGH", x.encrypt(Long.MIN_VALUE, 0, false), Bytes.highestFirst(first, 0));
        Check.same("encrypt of the last bit, LOW", x.encrypt(0, 1, true), Bytes.highestFirst(last, 8));
    }

    private static void keyBytesInOrder() {
        SealedStream x = new SealedStream();
        x.key(0x80000001ffffffffL, 0x00000000fffffffeL);
        Check.same("word(0)", x.word(0), 0x80000001);
        Check.same("word(1)", x.word(1), -1);
        Check.same("word(2)", x.word(2), 0);
        Check.same("word(3)", x.word(3), -2);
    }

    private static void wordsFrom4To43() {
        for (long high : EDGES) {
            for (long low : EDGES) {
                SealedStream x = new SealedStream();
                x.key(high, low);
                int[] due = Reference.words(high, low);
                for (int i = 4; i <= 43; i++) {
                    Check.same("word(" + i + ")", x.word(i), due[i]);
                }
            }
        }
    }

    private static void firstBecomesLast() {
        SealedStream x = new SealedStream();
        x.key(0, 0x53000000L);
        Check.same("word(4), 53 as the first", x.word(4), 0x626363ed);
        x.key(0, 0x53L);
        Check.same("word(4), 53 as the last", x.word(4), 0x6263ed63);
    }

    /** So that each row and each four bytes are gone round. */
    private static void oneByteAtEachPlace() {
        for (int i = 0; i < 16; i++) {
            for (int b = 1; b < 256; b += 2) {
                byte[] block = new byte[16];
                block[i] = (byte) b;
                byte[] due = Reference.encrypt(KEY, block);
                long high = Bytes.highestFirst(block, 0);
                long low = Bytes.highestFirst(block, 8);
                SealedStream x = keyed();
                Check.same(b + " at " + i + ": encrypt, HIGH", x.encrypt(high, low, false), Bytes.highestFirst(due, 0));
                Check.same(b + " at " + i + ": encrypt, LOW", x.encrypt(high, low, true), Bytes.highestFirst(due, 8));
            }
        }
    }

    /** From what FIPS 197, appendix B, tells before round 10, no mix leads to the end. */
    private static void noMixAtTheEnd() {
        byte[] before = Bytes.hex("eb40f21e592e38848ba113e71bc342d2");
        SealedStream x = new SealedStream();
        x.key(0x2b7e151628aed2a6L, 0xabf7158809cf4f3cL);
        byte[] got = Bytes.ofBlock(x.encrypt(0x3243f6a8885a308dL, 0x313198a2e0370734L, false),
                x.encrypt(0x3243f6a8885a308dL, 0x313198a2e0370734L, true));
        for (int i = 0; i < 16; i++) {
            int from = 4 * ((i / 4 + i % 4) % 4) + i % 4;
            int word = x.word(40 + i / 4) >>> (24 - 8 * (i % 4)) & 255;
            Check.same("byte " + i, got[i] & 255, Reference.subst(before[from] & 255) ^ word);
        }
    }

    private static void whoseEncryptItIs() {
        for (long high : EDGES) {
            for (long low : EDGES) {
                SealedStream x = keyed();
                long otherHigh = x.decrypt(high, low, false);
                long otherLow = x.decrypt(high, low, true);
                Check.same("encrypt of decrypt, HIGH", x.encrypt(otherHigh, otherLow, false), high);
                Check.same("encrypt of decrypt, LOW", x.encrypt(otherHigh, otherLow, true), low);
            }
        }
    }

    private static void productsWithOneAndNone() {
        for (long a : EDGES) {
            for (long b : EDGES) {
                product("by 1", a, b, Long.MIN_VALUE, 0, a, b);
                product("by 0", a, b, 0, 0, 0, 0);
            }
        }
    }

    private static void productsOfPowers() {
        product("x by x", 1L << 62, 0, 1L << 62, 0, 1L << 61, 0);
        product("x^62 by x", 2, 0, 1L << 62, 0, 1, 0);
        product("x^63 by x", 1, 0, 1L << 62, 0, 0, Long.MIN_VALUE);
        product("x^126 by x", 0, 2, 1L << 62, 0, 0, 1);
    }

    private static void productWithoutCarry() {
        product("(1 + x) by (1 + x)", 3L << 62, 0, 3L << 62, 0, 5L << 61, 0);
    }

    private static void productsBeyondX127() {
        product("x^127 by x", 0, 1, 1L << 62, 0, 0xe1L << 56, 0);
        // x^254 is x^126 (x^7 + x^2 + x + 1), which goes beyond x^127 once more.
        product("x^127 by x^127", 0, 1, 0, 1, 0xe608L << 48, 3);
    }

    private static void product(String what, long a, long b, long c, long d, long high, long low) {
        SealedStream x = new SealedStream();
        Check.same(what + ", HIGH", x.product(a, b, c, d, false), high);
        Check.same(what + ", LOW", x.product(a, b, c, d, true), low);
        Check.same(what + ", the other way round, HIGH", x.product(c, d, a, b, false), high);
        Check.same(what + ", the other way round, LOW", x.product(c, d, a, b, true), low);
    }

    /** The sign of one part must not run over into another. */
    private static void edgesOfTheNonce() {
        for (long nonce : EDGES) {
            for (int rest : REST_EDGES) {
                sealsAsTheLibrary(keyed(), nonce, rest, filled(1, 7), filled(17, 9));
            }
        }
    }

    private static void sealsAsTheLibrary(SealedStream x, long nonce, int rest, byte[] aside, byte[] text) {
        byte[] due = Reference.seal(KEY, Bytes.ofNonce(nonce, rest), aside, text);
        String what = "nonce " + nonce + " " + rest + ", " + aside.length + " aside, " + text.length + " of the text";
        x.start(false, nonce, rest);
        Bytes.giveAside(x, aside, 8);
        Bytes.givePlain(x, text, Reference.withoutTag(due), 8);
        Check.same(what + ": seal", x.seal(), text.length);
        sameTag(what, x, due);
    }

    private static void fullMessage() {
        SealedStream x = new SealedStream();
        longest(x, 2);
        x.start(true, 1, 2);
        Bytes.giveAside(x, filled(48, 1), 8);
        Check.unsupported("a 49th aside byte", () -> x.aside(1, 1));
        Bytes.giveSealed(x, filled(96, 1), 8);
        Check.unsupported("a 97th byte of the text", () -> x.text(1, 1));
        Check.same("length", x.length(), 96);
    }

    /** A text of zeros shows the mask itself. */
    private static void everyMaskByte() {
        for (int piece = 1; piece <= 8; piece++) {
            SealedStream x = keyed();
            x.start(false, -2, -3);
            for (int held = 0; held + piece <= 96; held += piece) {
                x.text(0, piece);
            }
            for (int i = 0; i < 96 / piece * piece; i++) {
                byte[] block = Bytes.ofBlock(-2, (-3L << 32) | (2 + i / 16));
                Check.same("byte " + i, x.at(i), Reference.encrypt(KEY, block)[i % 16] & 255);
            }
        }
    }

    private static void everyMaskBlock() {
        SealedStream x = keyed();
        x.start(false, 4, 5);
        for (int block = 0; block < 6; block++) {
            long high = x.encrypt(4, (5L << 32) | (2 + block), false);
            long low = x.encrypt(4, (5L << 32) | (2 + block), true);
            Check.same("text from " + 16 * block, x.text(0, 8), Long.reverseBytes(high));
            Check.same("text from " + (16 * block + 8), x.text(0, 8), Long.reverseBytes(low));
        }
    }

    private static void textUnderTheMask() {
        SealedStream x = keyed();
        x.start(false, 6, 7);
        long mask = x.text(0, 8);
        for (long text : EDGES) {
            x.start(false, 6, 7);
            Check.same("text", x.text(text, 8), text ^ mask);
        }
    }

    /** Each length round a block's end, over what a longer message left behind. */
    private static void filledUpWithZeros() {
        int[] asides = {0, 1, 7, 8, 9, 15, 16, 17, 31, 32, 33, 47, 48};
        int[] texts = {0, 1, 7, 8, 9, 15, 16, 17, 31, 32, 33, 79, 80, 81, 95, 96};
        for (int aside : asides) {
            for (int text : texts) {
                SealedStream x = new SealedStream();
                longest(x, 1);
                x.key(KEY_HIGH, KEY_LOW);
                sealsAsTheLibrary(x, 8, 9, filled(aside, 0xff), filled(text, 0x11));
            }
        }
    }

    /** Then the block of the two numbers alone is left, and that one is zero. */
    private static void noBlocks() {
        SealedStream x = keyed();
        x.start(false, 10, 11);
        x.aside(-1, 0);
        x.text(-1, 0);
        Check.same("seal", x.seal(), 0);
        Check.same("tag, HIGH", x.tag(false), x.encrypt(10, (11L << 32) | 1, false));
        Check.same("tag, LOW", x.tag(true), x.encrypt(10, (11L << 32) | 1, true));
    }

    /** Blocks of zeros leave y zero, so that the tag shows the block of the two numbers. */
    private static void bitsOfTheAside() {
        for (int aside = 0; aside <= 48; aside++) {
            SealedStream x = keyed();
            x.start(false, 12, 13);
            Bytes.giveAside(x, new byte[aside], 8);
            x.seal();
            sameNumbers(x, 8L * aside, 0);
        }
    }

    private static void bitsOfTheText() {
        for (int text = 0; text <= 96; text++) {
            SealedStream x = keyed();
            x.start(false, 12, 13);
            // What the mask makes of itself is zeros.
            for (int held = 0; held < text; held++) {
                byte[] mask = Reference.encrypt(KEY, Bytes.ofBlock(12, (13L << 32) | (2 + held / 16)));
                Check.same("text", x.text(mask[held % 16], 1), 0);
            }
            x.seal();
            sameNumbers(x, 0, 8L * text);
        }
    }

    private static void sameNumbers(SealedStream x, long asideBits, long textBits) {
        long factorHigh = x.encrypt(0, 0, false);
        long factorLow = x.encrypt(0, 0, true);
        String what = asideBits + " and " + textBits + " bits: tag";
        Check.same(what + ", HIGH", x.tag(false) ^ x.encrypt(12, (13L << 32) | 1, false),
                x.product(asideBits, textBits, factorHigh, factorLow, false));
        Check.same(what + ", LOW", x.tag(true) ^ x.encrypt(12, (13L << 32) | 1, true),
                x.product(asideBits, textBits, factorHigh, factorLow, true));
    }

    private static void phases() {
        Check.same("NONE", SealedStream.NONE, 0);
        Check.same("ASIDE", SealedStream.ASIDE, 1);
        Check.same("TEXT", SealedStream.TEXT, 2);
        Check.same("SEALED", SealedStream.SEALED, 3);
        Check.same("OPENED", SealedStream.OPENED, 4);
        Check.same("REFUSED", SealedStream.REFUSED, 5);
    }

    /** What stands above the n lowest bytes must not be seen: in the aside bytes, the text, or the answer. */
    private static void nLowest() {
        byte[] bytes = Bytes.hex("80ff007f01fe8100");
        for (int n = 0; n <= 8; n++) {
            byte[] some = Arrays.copyOf(bytes, n);
            byte[] due = Reference.seal(KEY, Bytes.ofNonce(16, 17), some, some);
            for (long filling : new long[] {0, -1, 0x80, 0x7f}) {
                nLowestSealed(some, due, filling);
                nLowestOpened(some, due, filling);
            }
        }
    }

    private static void nLowestSealed(byte[] some, byte[] due, long filling) {
        int n = some.length;
        SealedStream x = keyed();
        x.start(false, 16, 17);
        Check.same("aside", x.aside(Bytes.piece(some, 0, n, filling), n), n);
        Check.same("text", x.text(Bytes.piece(some, 0, n, filling), n), Bytes.piece(due, 0, n, 0));
        x.seal();
        sameTag("n is " + n, x, due);
    }

    private static void nLowestOpened(byte[] some, byte[] due, long filling) {
        int n = some.length;
        SealedStream x = keyed();
        x.start(true, 16, 17);
        x.aside(Bytes.piece(some, 0, n, filling), n);
        Check.same("text", x.text(Bytes.piece(due, 0, n, filling), n), 0);
        Check.same("open", x.open(Reference.tagHigh(due), Reference.tagLow(due)), true);
        Bytes.seen("n is " + n, x, some);
    }
}
