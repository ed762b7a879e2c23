import java.util.Arrays;
import java.util.Random;

/** Promises 7 to 14: messages sealed and opened, of every length and in pieces of every size. */
public final class MessageTest {
    private static final byte[] KEY = Bytes.hex("feffe9928665731c6d6a8f9467308308");
    private static final byte[] TEXT = Bytes.hex(
            "d9313225f88406e5a55909c5aff5269a86a7a9531534f7da2e4c303d8a318a72"
            + "1c3c0c95956809532fcf0e2449a6b525b16aedf5aa0de657ba637b391aafd255");
    private static final byte[] SEALED = Bytes.hex(
            "42831ec2217774244b7221b784d0d49ce3aa212f2c02a4e035c17e2329aca12e"
            + "21d514b25466931c7d8f6a5aac84aa051ba30b396a0aac973d58e091473f5985");
    private static final byte[] ASIDE = Bytes.hex("feedfacedeadbeeffeedfacedeadbeefabaddad2");
    private static final long NONCE = 0xcafebabefacedbadL;
    private static final int REST = 0xdecaf888;

    public static void main(String[] args) {
        told();
        everyLength();
        everyPiece();
        longest();
        everyChangeIsRefused();
        latestMessage();
        shorterAfterLonger();
        Check.end();
    }

    /** The third and the fourth case of the paper by McGrew and Viega. */
    private static void told() {
        for (int piece = 1; piece <= 8; piece++) {
            round(KEY, NONCE, REST, new byte[0], TEXT, SEALED, 0x4d5c2af327cd64a6L, 0x2cf35abd2ba6fab4L, piece);
            round(KEY, NONCE, REST, ASIDE, Arrays.copyOf(TEXT, 60), Arrays.copyOf(SEALED, 60),
                    0x5bc94fbc3221a5dbL, 0x94fae95ae7121a47L, piece);
        }
    }

    private static void everyLength() {
        Random random = new Random(789);
        for (int aside = 0; aside <= 48; aside++) {
            for (int text = 0; text <= 96; text += aside % 16 < 2 ? 1 : 7) {
                byReference(random, aside, text, 8);
            }
        }
    }

    private static void everyPiece() {
        Random random = new Random(101);
        for (int piece = 1; piece <= 8; piece++) {
            for (int run = 0; run < 40; run++) {
                byReference(random, random.nextInt(49), random.nextInt(97), piece);
            }
        }
    }

    private static void byReference(Random random, int asideCount, int textCount, int piece) {
        byte[] key = Bytes.random(random, 16);
        byte[] aside = Bytes.random(random, asideCount);
        byte[] text = Bytes.random(random, textCount);
        long nonce = random.nextLong();
        int rest = random.nextInt();
        byte[] due = Reference.seal(key, Bytes.ofNonce(nonce, rest), aside, text);
        round(key, nonce, rest, aside, text, Reference.withoutTag(due), Reference.tagHigh(due), Reference.tagLow(due), piece);
    }

    private static void round(byte[] key, long nonce, int rest, byte[] aside, byte[] text, byte[] sealed,
            long high, long low, int piece) {
        seal(withKey(key), nonce, rest, aside, text, sealed, high, low, piece);
        open(withKey(key), nonce, rest, aside, text, sealed, high, low, piece);
    }

    private static SealedStream withKey(byte[] key) {
        SealedStream x = new SealedStream();
        x.key(Bytes.highestFirst(key, 0), Bytes.highestFirst(key, 8));
        return x;
    }

    private static void seal(SealedStream x, long nonce, int rest, byte[] aside, byte[] text, byte[] sealed,
            long high, long low, int piece) {
        x.start(false, nonce, rest);
        started(x);
        Bytes.giveAside(x, aside, piece);
        Check.same("8: phase", x.phase(), SealedStream.ASIDE);
        Bytes.givePlain(x, text, sealed, piece);
        Check.same("9: phase", x.phase(), text.length == 0 ? SealedStream.ASIDE : SealedStream.TEXT);
        beingSealed(x, sealed);
        Check.same("10: seal", x.seal(), text.length);
        Check.same("10: phase", x.phase(), SealedStream.SEALED);
        Check.same("12: tag, HIGH", x.tag(false), high);
        Check.same("12: tag, LOW", x.tag(true), low);
        Check.same("13: length when SEALED", x.length(), text.length);
        Bytes.seen("14: SEALED", x, sealed);
    }

    private static void beingSealed(SealedStream x, byte[] sealed) {
        int last = sealed.length - 1;
        Check.same("14: the first while being sealed", x.at(0), last < 0 ? -1 : sealed[0] & 255);
        Check.same("14: the last while being sealed", x.at(last), last < 0 ? -1 : sealed[last] & 255);
        Check.same("14: behind the last while being sealed", x.at(last + 1), -1);
    }

    private static void open(SealedStream x, long nonce, int rest, byte[] aside, byte[] text, byte[] sealed,
            long high, long low, int piece) {
        x.start(true, nonce, rest);
        started(x);
        Bytes.giveAside(x, aside, piece);
        Bytes.giveSealed(x, sealed, piece);
        Bytes.unseen("14: being opened", x);
        Check.same("11: open", x.open(high, low), true);
        Check.same("11: phase", x.phase(), SealedStream.OPENED);
        Check.same("13: length when OPENED", x.length(), text.length);
        Bytes.seen("14: OPENED", x, text);
        Check.state("12: tag when OPENED", () -> x.tag(false));
    }

    private static void started(SealedStream x) {
        Check.same("7: phase", x.phase(), SealedStream.ASIDE);
        Check.same("7: length", x.length(), 0);
        Bytes.unseen("7: just started", x);
        Check.same("7: aside of nothing", x.aside(-1, 0), 0);
    }

    /** The edges of 48 and 96: what would go beyond is refused whole and leaves all as it was. */
    private static void longest() {
        Random random = new Random(4896);
        byte[] key = Bytes.random(random, 16);
        byte[] aside = Bytes.random(random, 48);
        byte[] text = Bytes.random(random, 96);
        byte[] due = Reference.seal(key, Bytes.ofNonce(3, 4), aside, text);
        byte[] sealed = Reference.withoutTag(due);
        for (int opens = 0; opens < 2; opens++) {
            SealedStream x = withKey(key);
            x.start(opens == 1, 3, 4);
            Bytes.giveAside(x, Arrays.copyOf(aside, 43), 8);
            Check.unsupported("8: six bytes beyond 43", () -> x.aside(-1, 6));
            Check.unsupported("8: eight bytes beyond 43", () -> x.aside(-1, 8));
            Check.same("8: five bytes beyond 43", x.aside(Bytes.piece(aside, 43, 5, -1), 5), 48);
            Check.same("8: nothing beyond 48", x.aside(-1, 0), 48);
            Check.unsupported("8: one byte beyond 48", () -> x.aside(-1, 1));
            Check.same("8: phase", x.phase(), SealedStream.ASIDE);
            byte[] given = opens == 1 ? sealed : text;
            for (int from = 0; from < 95; from += 5) {
                x.text(Bytes.piece(given, from, 5, -1), 5);
            }
            Check.unsupported("9: two bytes beyond 95", () -> x.text(-1, 2));
            Check.unsupported("9: eight bytes beyond 95", () -> x.text(-1, 8));
            Check.same("13: length", x.length(), 95);
            x.text(Bytes.piece(given, 95, 1, -1), 1);
            Check.same("9: nothing beyond 96", x.text(-1, 0), 0);
            Check.unsupported("9: one byte beyond 96", () -> x.text(-1, 1));
            Check.same("13: length", x.length(), 96);
            Check.same("9: phase", x.phase(), SealedStream.TEXT);
            if (opens == 1) {
                Check.same("11: open", x.open(Reference.tagHigh(due), Reference.tagLow(due)), true);
                Bytes.seen("14: OPENED", x, text);
            } else {
                Check.same("10: seal", x.seal(), 96);
                Check.same("12: tag, HIGH", x.tag(false), Reference.tagHigh(due));
                Check.same("12: tag, LOW", x.tag(true), Reference.tagLow(due));
                Bytes.seen("14: SEALED", x, sealed);
            }
        }
    }

    private static void everyChangeIsRefused() {
        byte[] due = Reference.seal(KEY, Bytes.ofNonce(NONCE, REST), ASIDE, TEXT);
        long high = Reference.tagHigh(due);
        long low = Reference.tagLow(due);
        refused(NONCE, REST, ASIDE, SEALED, ~high, ~low);
        refused(NONCE, REST, ASIDE, SEALED, low, high);
        refused(NONCE, REST, Arrays.copyOf(ASIDE, ASIDE.length - 1), SEALED, high, low);
        refused(NONCE, REST, Arrays.copyOf(ASIDE, ASIDE.length + 1), SEALED, high, low);
        refused(NONCE, REST, ASIDE, Arrays.copyOf(SEALED, SEALED.length - 1), high, low);
        refused(NONCE, REST, ASIDE, Arrays.copyOf(SEALED, SEALED.length + 1), high, low);
        for (int bit = 0; bit < 64; bit++) {
            long changed = 1L << bit;
            refused(NONCE, REST, ASIDE, SEALED, high ^ changed, low);
            refused(NONCE, REST, ASIDE, SEALED, high, low ^ changed);
            refused(NONCE, REST, ASIDE, SEALED, high ^ changed, low ^ changed);
            refused(NONCE ^ changed, REST, ASIDE, SEALED, high, low);
        }
        for (int bit = 0; bit < 32; bit++) {
            refused(NONCE, REST ^ 1 << bit, ASIDE, SEALED, high, low);
        }
        for (int bit = 0; bit < 8 * ASIDE.length; bit++) {
            refused(NONCE, REST, changed(ASIDE, bit), SEALED, high, low);
        }
        for (int bit = 0; bit < 8 * SEALED.length; bit++) {
            refused(NONCE, REST, ASIDE, changed(SEALED, bit), high, low);
        }
    }

    private static byte[] changed(byte[] bytes, int bit) {
        byte[] changed = bytes.clone();
        changed[bit / 8] ^= (byte) (1 << bit % 8);
        return changed;
    }

    private static void refused(long nonce, int rest, byte[] aside, byte[] sealed, long high, long low) {
        SealedStream x = withKey(KEY);
        x.start(true, nonce, rest);
        Bytes.giveAside(x, aside, 8);
        Bytes.giveSealed(x, sealed, 8);
        Check.same("11: open of what was changed", x.open(high, low), false);
        Check.same("11: phase of what was changed", x.phase(), SealedStream.REFUSED);
        Check.same("13: length when REFUSED", x.length(), sealed.length);
        Bytes.unseen("14: REFUSED", x);
        Check.state("12: tag when REFUSED", () -> x.tag(true));
        Check.state("11: open when REFUSED", () -> x.open(high, low));
    }

    /** length, at and the tag are the latest message's alone, whatever was left unended before. */
    private static void latestMessage() {
        SealedStream x = withKey(KEY);
        x.start(false, 1, 1);
        x.aside(-1, 8);
        x.text(-1, 8);
        x.start(true, 2, 2);
        started(x);
        x.aside(-1, 7);
        x.text(-1, 3);
        Check.same("13: length of the latest", x.length(), 3);
        seal(x, NONCE, REST, new byte[0], TEXT, SEALED, 0x4d5c2af327cd64a6L, 0x2cf35abd2ba6fab4L, 8);
        x.start(false, NONCE, REST);
        started(x);
        Check.state("12: tag of an earlier one", () -> x.tag(false));
        open(x, NONCE, REST, new byte[0], TEXT, SEALED, 0x4d5c2af327cd64a6L, 0x2cf35abd2ba6fab4L, 8);
        x.start(false, NONCE, REST);
        started(x);
    }

    /** Where blocks are filled up with zeros, nothing of an earlier message may stand. */
    private static void shorterAfterLonger() {
        SealedStream x = withKey(KEY);
        x.start(false, 1, 1);
        Bytes.giveAside(x, Bytes.hex("ff".repeat(48)), 8);
        for (int from = 0; from < 96; from += 8) {
            x.text(-1, 8);
        }
        x.seal();
        seal(x, NONCE, REST, ASIDE, Arrays.copyOf(TEXT, 60), Arrays.copyOf(SEALED, 60),
                0x5bc94fbc3221a5dbL, 0x94fae95ae7121a47L, 8);
    }
}
