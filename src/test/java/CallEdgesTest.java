/** The boundary cases that the promises 1 to 9 name, a test for each. */
public final class CallEdgesTest {
    private static final int[] WRONG_COUNTS = {-1, 9, -8, 10, 64, 256, 257, -256, Integer.MIN_VALUE, Integer.MAX_VALUE};
    private static final int[] WRONG_WORDS = {-1, 44, -2, 45, 48, 256, -44, Integer.MIN_VALUE, Integer.MAX_VALUE};

    public static void main(String[] args) {
        Check.test("1: The key is zero, the phase NONE", CallEdgesTest::newObject);
        Check.test("2: A new key", CallEdgesTest::newKey);
        Check.test("2: The phase is NONE", CallEdgesTest::noneAfterKey);
        Check.test("3: Word i of the key", CallEdgesTest::firstAndLastWord);
        Check.test("3: IndexOutOfBoundsException when i is not 0 .. 43", CallEdgesTest::wrongWords);
        Check.test("4: HIGH, or LOW when second", CallEdgesTest::halvesOfEncrypt);
        Check.test("5: HIGH, or LOW when second", CallEdgesTest::halvesOfDecrypt);
        Check.test("6: HIGH, or LOW when second", CallEdgesTest::halvesOfProduct);
        Check.test("7: A message to be opened, or sealed", CallEdgesTest::openedOrSealed);
        Check.test("7: with a nonce", CallEdgesTest::nothingOfAnEarlierMessage);
        Check.test("7: The phase is ASIDE", CallEdgesTest::asideAfterStart);
        Check.test("8: n aside bytes more: how many then", CallEdgesTest::howManyAside);
        Check.test("8: IllegalStateException when the phase is not ASIDE", CallEdgesTest::asideInAWrongPhase);
        Check.test("8: IllegalArgumentException when n is not 0 .. 8", CallEdgesTest::asideOfAWrongCount);
        Check.test("8: UnsupportedOperationException when there would be more than 48", CallEdgesTest::asideUpTo48);
        Check.test("9: the phase is TEXT (for n = 0 too)", CallEdgesTest::textOfNothing);
        Check.test("9: When it is sealed: the n sealed bytes, told likewise", CallEdgesTest::textWhenSealed);
        Check.test("9: else 0", CallEdgesTest::textWhenOpened);
        Check.test("9: IllegalStateException when the phase is not ASIDE or TEXT", CallEdgesTest::textInAWrongPhase);
        Check.test("9: IllegalArgumentException when n is not 0 .. 8", CallEdgesTest::textOfAWrongCount);
        Check.test("9: UnsupportedOperationException when there would be more than 96", CallEdgesTest::textUpTo96);
        Check.end();
    }

    private static void newObject() {
        SealedStream other = new SealedStream();
        other.key(-1, -1);
        other.start(false, 1, 1);
        SealedStream x = new SealedStream();
        Check.same("phase", x.phase(), SealedStream.NONE);
        for (int i = 0; i < 4; i++) {
            Check.same("word(" + i + ")", x.word(i), 0);
        }
        Check.same("word(43)", x.word(43), 0x6f8f188e);
        Check.same("encrypt", x.encrypt(0, 0, true), 0x884cfa59ca342b2eL);
    }

    private static void newKey() {
        for (long half : new long[] {0, -1, 1, Long.MIN_VALUE, Long.MAX_VALUE}) {
            byte[] key = Bytes.ofBlock(half, ~half);
            SealedStream x = new SealedStream();
            x.key(5, 6);
            x.start(false, 3, 4);
            x.text(0, 1);
            x.key(half, ~half);
            Check.same("word(0)", x.word(0), (int) (half >> 32));
            Check.same("word(3)", x.word(3), (int) ~half);
            Check.same("encrypt", x.encrypt(0, 0, false), Bytes.highestFirst(Reference.encrypt(key, new byte[16]), 0));
            x.start(false, 3, 4);
            byte[] sealed = Reference.seal(key, Bytes.ofNonce(3, 4), new byte[0], new byte[1]);
            Check.same("text", x.text(0, 1), sealed[0] & 255);
        }
    }

    private static void noneAfterKey() {
        for (Situation s : Situation.ALL) {
            SealedStream x = s.make();
            // The same key again is a new one too.
            x.key(1, 2);
            Check.same("from " + s, x.phase(), SealedStream.NONE);
            Check.state("from " + s + ": aside", () -> x.aside(0, 0));
            Check.state("from " + s + ": text", () -> x.text(0, 0));
            Check.state("from " + s + ": seal", x::seal);
            Check.state("from " + s + ": open", () -> x.open(0, 0));
            Check.state("from " + s + ": tag", () -> x.tag(false));
            Bytes.unseen("from " + s, x);
        }
    }

    private static void firstAndLastWord() {
        SealedStream x = new SealedStream();
        x.key(1L << 32, 2);
        Check.same("word(0)", x.word(0), 1);
        Check.same("word(43)", x.word(43), Reference.words(1L << 32, 2)[43]);
    }

    private static void wrongWords() {
        for (Situation s : Situation.ALL) {
            SealedStream x = s.make();
            for (int i : WRONG_WORDS) {
                Check.index("word(" + i + ")", () -> x.word(i));
            }
            Check.same("phase", x.phase(), s.phase());
        }
    }

    private static void halvesOfEncrypt() {
        SealedStream x = new SealedStream();
        x.key(0x0001020304050607L, 0x08090a0b0c0d0e0fL);
        Check.same("HIGH", x.encrypt(0x0011223344556677L, 0x8899aabbccddeeffL, false), 0x69c4e0d86a7b0430L);
        Check.same("LOW", x.encrypt(0x0011223344556677L, 0x8899aabbccddeeffL, true), 0xd8cdb78070b4c55aL);
    }

    private static void halvesOfDecrypt() {
        SealedStream x = new SealedStream();
        x.key(0x0001020304050607L, 0x08090a0b0c0d0e0fL);
        Check.same("HIGH", x.decrypt(0x69c4e0d86a7b0430L, 0xd8cdb78070b4c55aL, false), 0x0011223344556677L);
        Check.same("LOW", x.decrypt(0x69c4e0d86a7b0430L, 0xd8cdb78070b4c55aL, true), 0x8899aabbccddeeffL);
    }

    private static void halvesOfProduct() {
        SealedStream x = new SealedStream();
        Check.same("HIGH", x.product(0x0011223344556677L, 0x8899aabbccddeeffL, Long.MIN_VALUE, 0, false), 0x0011223344556677L);
        Check.same("LOW", x.product(0x0011223344556677L, 0x8899aabbccddeeffL, Long.MIN_VALUE, 0, true), 0x8899aabbccddeeffL);
    }

    private static void openedOrSealed() {
        for (Situation s : Situation.ALL) {
            SealedStream x = s.make();
            x.start(true, 3, 4);
            Check.state("opened behind " + s + ": seal", x::seal);
            Check.same("opened behind " + s + ": open", x.open(0, 0), false);
            SealedStream y = s.make();
            y.start(false, 3, 4);
            Check.state("sealed behind " + s + ": open", () -> y.open(0, 0));
            Check.same("sealed behind " + s + ": seal", y.seal(), 0);
        }
    }

    private static void nothingOfAnEarlierMessage() {
        byte[] due = Reference.seal(Bytes.ofBlock(1, 2), Bytes.ofNonce(5, 6), Messages.counted(2), Messages.counted(20));
        for (Situation s : Situation.ALL) {
            SealedStream x = s.make();
            x.start(false, 5, 6);
            Check.same("behind " + s + ": length", x.length(), 0);
            Bytes.unseen("behind " + s, x);
            Bytes.giveAside(x, Messages.counted(2), 8);
            Bytes.givePlain(x, Messages.counted(20), Reference.withoutTag(due), 8);
            x.seal();
            Check.same("behind " + s + ": tag, HIGH", x.tag(false), Reference.tagHigh(due));
            Check.same("behind " + s + ": tag, LOW", x.tag(true), Reference.tagLow(due));
        }
    }

    private static void asideAfterStart() {
        for (Situation s : Situation.ALL) {
            SealedStream x = s.make();
            x.start(false, 3, 4);
            Check.same("sealed behind " + s, x.phase(), SealedStream.ASIDE);
            x.start(true, 3, 4);
            Check.same("opened behind " + s, x.phase(), SealedStream.ASIDE);
            Check.same("behind " + s + ": aside", x.aside(-1, 8), 8);
        }
    }

    private static void howManyAside() {
        for (int n = 1; n <= 8; n++) {
            SealedStream x = Messages.started(n % 2 == 0);
            Check.same("none", x.aside(-1, 0), 0);
            for (int held = n; held <= 48; held += n) {
                Check.same("by " + n, x.aside(-1, n), held);
                Check.same("none more", x.aside(-1, 0), held);
            }
            Check.same("phase", x.phase(), SealedStream.ASIDE);
        }
    }

    /** Whatever n is, as the phase comes first. */
    private static void asideInAWrongPhase() {
        Check.state("a new object", () -> new SealedStream().aside(0, 1));
        for (Situation s : Situation.ALL) {
            if (s.phase() == SealedStream.ASIDE) {
                continue;
            }
            SealedStream x = s.make();
            for (int n = -1; n <= 9; n++) {
                int count = n;
                Check.state("aside of " + n + " in " + s, () -> x.aside(0, count));
            }
            Check.same("phase", x.phase(), s.phase());
        }
    }

    /** However many there are, as n itself comes before what there would be. */
    private static void asideOfAWrongCount() {
        for (int held : new int[] {0, 1, 40, 47, 48}) {
            for (int n : WRONG_COUNTS) {
                SealedStream x = Messages.started(held % 2 == 1);
                Bytes.giveAside(x, Messages.counted(held), 8);
                Check.argument(n + " behind " + held, () -> x.aside(-1, n));
                Check.same(n + " behind " + held + ": how many", x.aside(-1, 0), held);
                Check.same(n + " behind " + held + ": phase", x.phase(), SealedStream.ASIDE);
            }
        }
    }

    private static void asideUpTo48() {
        for (int held = 0; held <= 48; held++) {
            for (int n = 0; n <= 8; n++) {
                asideBehind(held, n, false);
                asideBehind(held, n, true);
            }
        }
    }

    private static void asideBehind(int held, int n, boolean opens) {
        SealedStream x = Messages.started(opens);
        Bytes.giveAside(x, Messages.counted(held), 8);
        String what = n + " behind " + held;
        if (held + n > 48) {
            Check.unsupported(what, () -> x.aside(-1, n));
            Check.same(what + ": how many", x.aside(-1, 0), held);
        } else {
            Check.same(what, x.aside(-1, n), held + n);
        }
        Check.same(what + ": phase", x.phase(), SealedStream.ASIDE);
    }

    private static void textOfNothing() {
        for (int opens = 0; opens < 2; opens++) {
            SealedStream x = Messages.started(opens == 1);
            x.aside(-1, 3);
            Check.same("text of nothing", x.text(-1, 0), 0);
            Check.same("phase", x.phase(), SealedStream.TEXT);
            Check.same("length", x.length(), 0);
            Check.state("aside", () -> x.aside(0, 1));
            x.text(-1, 1);
            Check.same("phase, some more", x.phase(), SealedStream.TEXT);
            x.text(-1, 0);
            Check.same("phase, nothing more", x.phase(), SealedStream.TEXT);
        }
    }

    private static void textWhenSealed() {
        byte[] text = Messages.counted(96);
        byte[] sealed = Reference.withoutTag(Messages.due(new byte[0], text));
        for (int n = 1; n <= 8; n++) {
            SealedStream x = Messages.started(false);
            for (int held = 0; held + n <= 96; held += n) {
                Check.same(n + " behind " + held, x.text(Bytes.piece(text, held, n, -1), n), Bytes.piece(sealed, held, n, 0));
            }
        }
    }

    private static void textWhenOpened() {
        for (int n = 0; n <= 8; n++) {
            SealedStream x = Messages.started(true);
            for (int held = 0; held + 8 <= 96; held += 8) {
                Check.same(n + " behind " + x.length(), x.text(0x123456789abcdefL, n), 0);
            }
        }
    }

    /** Whatever n is, as the phase comes first. */
    private static void textInAWrongPhase() {
        Check.state("a new object", () -> new SealedStream().text(0, 1));
        for (Situation s : Situation.ALL) {
            if (s.underWay()) {
                continue;
            }
            SealedStream x = s.make();
            int length = x.length();
            for (int n = -1; n <= 9; n++) {
                int count = n;
                Check.state("text of " + n + " in " + s, () -> x.text(0, count));
            }
            Check.same("phase", x.phase(), s.phase());
            Check.same("length", x.length(), length);
        }
    }

    /** However many there are, as n itself comes before what there would be. */
    private static void textOfAWrongCount() {
        for (int held : new int[] {0, 1, 88, 95, 96}) {
            for (int n : WRONG_COUNTS) {
                textOfAWrongCount(held, n, false);
                textOfAWrongCount(held, n, true);
            }
        }
    }

    private static void textOfAWrongCount(int held, int n, boolean opens) {
        SealedStream x = Messages.withText(held, opens);
        int phase = x.phase();
        Check.argument(n + " behind " + held, () -> x.text(-1, n));
        Check.same(n + " behind " + held + ": length", x.length(), held);
        Check.same(n + " behind " + held + ": phase", x.phase(), phase);
    }

    private static void textUpTo96() {
        for (int held = 0; held <= 96; held++) {
            for (int n = 0; n <= 8; n++) {
                textBehind(held, n, false);
                textBehind(held, n, true);
            }
        }
    }

    private static void textBehind(int held, int n, boolean opens) {
        SealedStream x = Messages.withText(held, opens);
        String what = n + " behind " + held;
        if (held + n > 96) {
            Check.unsupported(what, () -> x.text(-1, n));
            Check.same(what + ": length", x.length(), held);
        } else {
            x.text(-1, n);
            Check.same(what + ": length", x.length(), held + n);
        }
        Check.same(what + ": phase", x.phase(), SealedStream.TEXT);
    }
}
