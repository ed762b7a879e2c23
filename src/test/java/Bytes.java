import java.nio.ByteBuffer;
import java.util.Random;

/** Bytes as the tests write them, and as the class takes them. */
final class Bytes {
    private Bytes() {
    }

    static byte[] hex(String digits) {
        byte[] bytes = new byte[digits.length() / 2];
        for (int i = 0; i < bytes.length; i++) {
            bytes[i] = (byte) Integer.parseInt(digits.substring(2 * i, 2 * i + 2), 16);
        }
        return bytes;
    }

    static byte[] random(Random random, int count) {
        byte[] bytes = new byte[count];
        random.nextBytes(bytes);
        return bytes;
    }

    static byte[] ofBlock(long high, long low) {
        return ByteBuffer.allocate(16).putLong(high).putLong(low).array();
    }

    static byte[] ofNonce(long nonce, int rest) {
        return ByteBuffer.allocate(12).putLong(nonce).putInt(rest).array();
    }

    /** Eight bytes from a place on, the first one highest. */
    static long highestFirst(byte[] bytes, int from) {
        return ByteBuffer.wrap(bytes).getLong(from);
    }

    /** n bytes from a place on in a long, the lowest first, under a filling that nobody must see. */
    static long piece(byte[] bytes, int from, int n, long filling) {
        long piece = n < 8 ? filling << (8 * n) : 0;
        for (int k = 0; k < n; k++) {
            piece |= (bytes[from + k] & 255L) << (8 * k);
        }
        return piece;
    }

    static void giveAside(SealedStream x, byte[] aside, int piece) {
        for (int from = 0; from < aside.length; from += piece) {
            int n = Math.min(piece, aside.length - from);
            Check.same("aside", x.aside(piece(aside, from, n, -1), n), from + n);
        }
    }

    /** Gives a text to be sealed, and looks at every answer on the way. */
    static void givePlain(SealedStream x, byte[] text, byte[] sealed, int piece) {
        for (int from = 0; from < text.length; from += piece) {
            int n = Math.min(piece, text.length - from);
            Check.same("text when sealed, from " + from, x.text(piece(text, from, n, -1), n), piece(sealed, from, n, 0));
            Check.same("length when sealed", x.length(), from + n);
        }
    }

    static void giveSealed(SealedStream x, byte[] sealed, int piece) {
        for (int from = 0; from < sealed.length; from += piece) {
            int n = Math.min(piece, sealed.length - from);
            Check.same("text when opened, from " + from, x.text(piece(sealed, from, n, -1), n), 0);
            Check.same("length when opened", x.length(), from + n);
        }
    }

    /** at answers these bytes, and -1 round them. */
    static void seen(String what, SealedStream x, byte[] due) {
        for (int i = 0; i < due.length; i++) {
            Check.same(what + ": at(" + i + ")", x.at(i), due[i] & 255);
        }
        for (int i : new int[] {due.length, due.length + 1, 96, -1, Integer.MIN_VALUE, Integer.MAX_VALUE}) {
            Check.same(what + ": at(" + i + ")", x.at(i), -1);
        }
    }

    static void unseen(String what, SealedStream x) {
        for (int i : new int[] {0, 1, 4, 5, 15, 16, 95, 96, -1, Integer.MIN_VALUE, Integer.MAX_VALUE}) {
            Check.same(what + ": at(" + i + ")", x.at(i), -1);
        }
    }
}
