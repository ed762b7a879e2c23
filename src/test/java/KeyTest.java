import java.util.Random;

/** Promises 1 (a new object), 2 (key) and 3 (word). */
public final class KeyTest {
    /** The 44 words that FIPS 197 tells in its appendix A.1. */
    private static final int[] FIPS_WORDS = {
        0x2b7e1516, 0x28aed2a6, 0xabf71588, 0x09cf4f3c, 0xa0fafe17, 0x88542cb1, 0x23a33939, 0x2a6c7605,
        0xf2c295f2, 0x7a96b943, 0x5935807a, 0x7359f67f, 0x3d80477d, 0x4716fe3e, 0x1e237e44, 0x6d7a883b,
        0xef44a541, 0xa8525b7f, 0xb671253b, 0xdb0bad00, 0xd4d1c6f8, 0x7c839d87, 0xcaf2b8bc, 0x11f915bc,
        0x6d88a37a, 0x110b3efd, 0xdbf98641, 0xca0093fd, 0x4e54f70e, 0x5f5fc9f3, 0x84a64fb2, 0x4ea6dc4f,
        0xead27321, 0xb58dbad2, 0x312bf560, 0x7f8d292f, 0xac7766f3, 0x19fadc21, 0x28d12941, 0x575c006e,
        0xd014f9a8, 0xc9ee2589, 0xe13f0cc8, 0xb6630ca6};

    public static void main(String[] args) {
        newObject();
        words();
        wordsByTheDocument();
        wrongWords();
        keyEndsAMessage();
        keyKeepsNothing();
        Check.end();
    }

    private static void newObject() {
        SealedStream x = new SealedStream();
        Check.same("1: phase of a new object", x.phase(), SealedStream.NONE);
        Check.same("1: length of a new object", x.length(), 0);
        Bytes.unseen("1: a new object", x);
        SealedStream zero = new SealedStream();
        zero.key(0, 0);
        for (int i = 0; i < 44; i++) {
            Check.same("1: word(" + i + ") of a new object", x.word(i), zero.word(i));
        }
        Check.same("1: word(4) under the key of zeros", x.word(4), 0x62636363);
        Check.same("1: encrypt by a new object", x.encrypt(0, 0, false), 0x66e94bd4ef8a2c3bL);
        Check.same("1: encrypt by a new object", x.encrypt(0, 0, true), 0x884cfa59ca342b2eL);
        x.start(false, 0, 0);
        x.seal();
        Check.same("1: tag by a new object", x.tag(false), 0x58e2fccefa7e3061L);
        Check.same("1: tag by a new object", x.tag(true), 0x367f1d57a4e7455aL);
    }

    private static void words() {
        SealedStream x = new SealedStream();
        x.key(0x2b7e151628aed2a6L, 0xabf7158809cf4f3cL);
        for (int i = 0; i < 44; i++) {
            Check.same("3: word(" + i + ")", x.word(i), FIPS_WORDS[i]);
        }
    }

    private static void wordsByTheDocument() {
        Random random = new Random(3);
        for (int run = 0; run < 200; run++) {
            SealedStream x = new SealedStream();
            long high = random.nextLong();
            long low = random.nextLong();
            x.key(high, low);
            int[] due = Reference.words(high, low);
            for (int i = 0; i < 44; i++) {
                Check.same("3: word(" + i + ") of a random key", x.word(i), due[i]);
            }
        }
    }

    private static void wrongWords() {
        SealedStream x = new SealedStream();
        x.key(1, 2);
        for (int i : new int[] {-1, 44, 45, -44, Integer.MIN_VALUE, Integer.MAX_VALUE}) {
            Check.index("3: word(" + i + ")", () -> x.word(i));
        }
        Check.same("3: word(0)", x.word(0), 0);
        Check.same("3: word(3)", x.word(3), 2);
    }

    private static void keyEndsAMessage() {
        for (Situation s : Situation.ALL) {
            SealedStream x = s.make();
            x.key(7, 8);
            String what = "2: key in " + s;
            Check.same(what + ": phase", x.phase(), SealedStream.NONE);
            Check.same(what + ": length", x.length(), 0);
            Bytes.unseen(what, x);
            Check.state(what + ": tag", () -> x.tag(false));
            Check.state(what + ": seal", x::seal);
            Check.state(what + ": open", () -> x.open(0, 0));
            Check.state(what + ": aside", () -> x.aside(0, 0));
            Check.state(what + ": text", () -> x.text(0, 0));
        }
    }

    private static void keyKeepsNothing() {
        SealedStream x = new Situation(SealedStream.SEALED, false).make();
        x.key(7, 8);
        SealedStream y = new SealedStream();
        y.key(7, 8);
        x.start(false, 9, 10);
        y.start(false, 9, 10);
        Check.same("2: text under a later key", x.text(11, 8), y.text(11, 8));
        Check.same("2: seal under a later key", x.seal(), 8);
        y.seal();
        Check.same("2: tag under a later key", x.tag(false), y.tag(false));
        Check.same("2: tag under a later key", x.tag(true), y.tag(true));
        Check.same("2: encrypt under a later key", x.encrypt(1, 2, true), y.encrypt(1, 2, true));
    }
}
