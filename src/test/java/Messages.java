/** Messages under the key (1, 2) with the nonce (3, 4), and what they become. */
final class Messages {
    private Messages() {
    }

    static SealedStream started(boolean opens) {
        SealedStream x = new SealedStream();
        x.key(1, 2);
        x.start(opens, 3, 4);
        return x;
    }

    /** With the first so many bytes of counted given as its text, or sealed text. */
    static SealedStream withText(int held, boolean opens) {
        SealedStream x = started(opens);
        give(x, counted(held));
        return x;
    }

    static void give(SealedStream x, byte[] text) {
        for (int from = 0; from < text.length; from += 8) {
            int n = Math.min(8, text.length - from);
            x.text(Bytes.piece(text, from, n, -1), n);
        }
    }

    /** The sealed text with the tag's 16 bytes behind it. */
    static byte[] due(byte[] aside, byte[] text) {
        return Reference.seal(Bytes.ofBlock(1, 2), Bytes.ofNonce(3, 4), aside, text);
    }

    static byte[] counted(int count) {
        byte[] bytes = new byte[count];
        for (int i = 0; i < count; i++) {
            bytes[i] = (byte) (37 * i + 200);
        }
        return bytes;
    }
}
