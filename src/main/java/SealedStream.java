/**
 * Texts sealed with a key of 128 bits so that whoever opens them knows that nothing in them, nor
 * what goes along with them, was changed: AES in the counter mode of Galois, piece by piece.
 *
 * Every row is made once, in a constructor, and used again, so that a call makes no object but the
 * exception that it throws.
 */
public final class SealedStream {
    public static final int NONE = 0, ASIDE = 1, TEXT = 2, SEALED = 3, OPENED = 4, REFUSED = 5;

    private static final int MOST_ASIDE = 48;
    private static final int MOST_TEXT = 96;
    private static final int MOST_PIECE = 8;
    private static final int BLOCK = 16;
    private static final int TAG_NUMBER = 1;
    private static final int FIRST_MASK_NUMBER = 2;
    private static final int NO_MASK = -1;

    private final Cipher cipher;
    private final Galois galois;
    private final int[] asideBytes;
    /** The sealed text; once a message is OPENED, its text. */
    private final int[] textBytes;
    private final int[] mask;

    private int phase;
    private boolean opens;
    private long nonceHead;
    private int nonceRest;
    private int asideCount;
    private int textCount;
    /** Which block of the mask stands in its row, or NO_MASK. */
    private int maskBlock;
    private long tagHigh;
    private long tagLow;

    public SealedStream() {
        cipher = new Cipher();
        galois = new Galois();
        asideBytes = new int[MOST_ASIDE];
        textBytes = new int[MOST_TEXT];
        mask = new int[BLOCK];
        phase = NONE;
        maskBlock = NO_MASK;
    }

    public void key(long high, long low) {
        cipher.expand(high, low);
        phase = NONE;
        textCount = 0;
    }

    public int word(int i) throws IndexOutOfBoundsException {
        if (i < 0 || i >= Cipher.WORDS) {
            throw new IndexOutOfBoundsException();
        }
        return cipher.wordAt(i);
    }

    public long encrypt(long high, long low, boolean second) {
        cipher.encipher(high, low);
        return second ? cipher.low() : cipher.high();
    }

    public long decrypt(long high, long low, boolean second) {
        cipher.decipher(high, low);
        return second ? cipher.low() : cipher.high();
    }

    public long product(long high, long low, long otherHigh, long otherLow, boolean second) {
        galois.put(high, low);
        galois.multiply(otherHigh, otherLow);
        return second ? galois.low() : galois.high();
    }

    public void start(boolean opens, long nonce, int rest) {
        this.opens = opens;
        nonceHead = nonce;
        nonceRest = rest;
        asideCount = 0;
        textCount = 0;
        maskBlock = NO_MASK;
        phase = ASIDE;
    }

    public int aside(long bytes, int n)
            throws IllegalStateException, IllegalArgumentException, UnsupportedOperationException {
        if (phase != ASIDE) {
            throw new IllegalStateException();
        }
        checkPiece(n, asideCount, MOST_ASIDE);
        for (int k = 0; k < n; k++) {
            asideBytes[asideCount] = pieceByte(bytes, k);
            asideCount++;
        }
        return asideCount;
    }

    public long text(long bytes, int n)
            throws IllegalStateException, IllegalArgumentException, UnsupportedOperationException {
        if (!isUnderWay()) {
            throw new IllegalStateException();
        }
        checkPiece(n, textCount, MOST_TEXT);
        phase = TEXT;
        return opens ? takeSealed(bytes, n) : takePlain(bytes, n);
    }

    public int seal() throws IllegalStateException {
        if (!isUnderWay() || opens) {
            throw new IllegalStateException();
        }
        reckonTag();
        phase = SEALED;
        return textCount;
    }

    public boolean open(long high, long low) throws IllegalStateException {
        if (!isUnderWay() || !opens) {
            throw new IllegalStateException();
        }
        reckonTag();
        boolean same = ((high ^ tagHigh) | (low ^ tagLow)) == 0;
        if (same) {
            unmaskText();
        }
        phase = same ? OPENED : REFUSED;
        return same;
    }

    public long tag(boolean second) throws IllegalStateException {
        if (phase != SEALED) {
            throw new IllegalStateException();
        }
        return second ? tagLow : tagHigh;
    }

    public int length() {
        return textCount;
    }

    public int at(int i) {
        return isReadable() && i >= 0 && i < textCount ? textBytes[i] : -1;
    }

    public int phase() {
        return phase;
    }

    private boolean isUnderWay() {
        return phase == ASIDE || phase == TEXT;
    }

    /** What is being opened stays hidden until its tag is known to be right. */
    private boolean isReadable() {
        return phase == OPENED || (phase != NONE && !opens);
    }

    private static void checkPiece(int n, int held, int most) {
        if (n < 0 || n > MOST_PIECE) {
            throw new IllegalArgumentException();
        }
        if (held + n > most) {
            throw new UnsupportedOperationException();
        }
    }

    private static int pieceByte(long bytes, int k) {
        return (int) (bytes >>> (8 * k)) & 255;
    }

    private long takePlain(long bytes, int n) {
        long sealed = 0;
        for (int k = 0; k < n; k++) {
            int b = pieceByte(bytes, k) ^ maskByte(textCount);
            textBytes[textCount] = b;
            textCount++;
            sealed |= (long) b << (8 * k);
        }
        return sealed;
    }

    private long takeSealed(long bytes, int n) {
        for (int k = 0; k < n; k++) {
            textBytes[textCount] = pieceByte(bytes, k);
            textCount++;
        }
        return 0;
    }

    private void unmaskText() {
        for (int i = 0; i < textCount; i++) {
            textBytes[i] ^= maskByte(i);
        }
    }

    private int maskByte(int i) {
        int wanted = i / BLOCK;
        if (wanted != maskBlock) {
            encipherNonce(FIRST_MASK_NUMBER + wanted);
            cipher.copyBlock(mask);
            maskBlock = wanted;
        }
        return mask[i % BLOCK];
    }

    private void encipherNonce(int number) {
        cipher.encipher(nonceHead, ((long) nonceRest << 32) | number);
    }

    private void reckonTag() {
        cipher.encipher(0, 0);
        long factorHigh = cipher.high();
        long factorLow = cipher.low();
        galois.put(0, 0);
        foldRow(asideBytes, asideCount, factorHigh, factorLow);
        foldRow(textBytes, textCount, factorHigh, factorLow);
        galois.add(8L * asideCount, 8L * textCount);
        galois.multiply(factorHigh, factorLow);
        encipherNonce(TAG_NUMBER);
        galois.add(cipher.high(), cipher.low());
        tagHigh = galois.high();
        tagLow = galois.low();
    }

    private void foldRow(int[] row, int count, long factorHigh, long factorLow) {
        for (int from = 0; from < count; from += BLOCK) {
            galois.add(joinBytes(row, from, count), joinBytes(row, from + 8, count));
            galois.multiply(factorHigh, factorLow);
        }
    }

    /** Eight bytes of a row, the first one highest; those from the end on are zeros. */
    private static long joinBytes(int[] row, int from, int end) {
        long joined = 0;
        for (int i = from; i < from + 8; i++) {
            joined = (joined << 8) | (i < end ? row[i] : 0);
        }
        return joined;
    }

    /** The block cipher under its key; what it works on stays in its block until the next call. */
    private static final class Cipher {
        static final int WORDS = 44;

        private static final int ROUNDS = 10;
        /** All bytes but 0 are powers of 3, as x + 1 generates them. */
        private static final int POWERS = 255;

        private final int[] subst;
        private final int[] unsubst;
        private final int[] words;
        private final int[] block;
        private final int[] before;

        /** The key is zero. */
        Cipher() {
            subst = new int[256];
            unsubst = new int[256];
            words = new int[WORDS];
            block = new int[BLOCK];
            before = new int[BLOCK];
            fillSubst();
            expand(0, 0);
        }

        private void fillSubst() {
            int[] powers = new int[POWERS];
            int power = 1;
            for (int k = 0; k < POWERS; k++) {
                powers[k] = power;
                power ^= twice(power);
            }
            enterSubst(0, 0);
            for (int k = 0; k < POWERS; k++) {
                enterSubst(powers[k], powers[(POWERS - k) % POWERS]);
            }
        }

        private void enterSubst(int b, int inverse) {
            // The byte stands there two times over, so that a shift reads its bits modulo 8.
            int c = inverse | (inverse << 8);
            int s = (c ^ (c >>> 4) ^ (c >>> 5) ^ (c >>> 6) ^ (c >>> 7) ^ 99) & 255;
            subst[b] = s;
            unsubst[s] = b;
        }

        /** MUL(2, a). */
        private static int twice(int a) {
            return (a << 1) ^ ((a >>> 7) * 0x11b);
        }

        void expand(long high, long low) {
            words[0] = (int) (high >>> 32);
            words[1] = (int) high;
            words[2] = (int) (low >>> 32);
            words[3] = (int) low;
            int r = 1;
            for (int i = 4; i < WORDS; i++) {
                int t = words[i - 1];
                if (i % 4 == 0) {
                    t = substWord(Integer.rotateLeft(t, 8)) ^ (r << 24);
                    r = twice(r);
                }
                words[i] = words[i - 4] ^ t;
            }
        }

        private int substWord(int w) {
            return (subst[w >>> 24] << 24) | (subst[(w >>> 16) & 255] << 16)
                    | (subst[(w >>> 8) & 255] << 8) | subst[w & 255];
        }

        int wordAt(int i) {
            return words[i];
        }

        void encipher(long high, long low) {
            load(high, low);
            addWords(0);
            for (int j = 1; j <= ROUNDS; j++) {
                substAndShift();
                if (j < ROUNDS) {
                    mix();
                }
                addWords(j);
            }
        }

        void decipher(long high, long low) {
            load(high, low);
            for (int j = ROUNDS; j >= 1; j--) {
                addWords(j);
                if (j < ROUNDS) {
                    unmix();
                }
                unshiftAndUnsubst();
            }
            addWords(0);
        }

        private void load(long high, long low) {
            for (int i = 0; i < 8; i++) {
                block[i] = (int) (high >>> (56 - 8 * i)) & 255;
                block[8 + i] = (int) (low >>> (56 - 8 * i)) & 255;
            }
        }

        private void addWords(int j) {
            for (int c = 0; c < 4; c++) {
                int w = words[4 * j + c];
                block[4 * c] ^= w >>> 24;
                block[4 * c + 1] ^= (w >>> 16) & 255;
                block[4 * c + 2] ^= (w >>> 8) & 255;
                block[4 * c + 3] ^= w & 255;
            }
        }

        /** Where the byte that a shift brings to place i comes from: 4 ((c + r) modulo 4) + r. */
        private static int shiftedFrom(int i) {
            return (i + 4 * (i % 4)) % BLOCK;
        }

        private void substAndShift() {
            copyBlock(before);
            for (int i = 0; i < BLOCK; i++) {
                block[i] = subst[before[shiftedFrom(i)]];
            }
        }

        private void unshiftAndUnsubst() {
            copyBlock(before);
            for (int i = 0; i < BLOCK; i++) {
                block[shiftedFrom(i)] = unsubst[before[i]];
            }
        }

        private void mix() {
            for (int c = 0; c < BLOCK; c += 4) {
                int a0 = block[c];
                int a1 = block[c + 1];
                int a2 = block[c + 2];
                int a3 = block[c + 3];
                // MUL(3, a) is MUL(2, a) ^ a, so each byte is all four but itself, and a double.
                int all = a0 ^ a1 ^ a2 ^ a3;
                block[c] = all ^ a0 ^ twice(a0 ^ a1);
                block[c + 1] = all ^ a1 ^ twice(a1 ^ a2);
                block[c + 2] = all ^ a2 ^ twice(a2 ^ a3);
                block[c + 3] = all ^ a3 ^ twice(a3 ^ a0);
            }
        }

        /** Mixing four times changes nothing, so mixing three times undoes one. */
        private void unmix() {
            mix();
            mix();
            mix();
        }

        void copyBlock(int[] row) {
            System.arraycopy(block, 0, row, 0, BLOCK);
        }

        long high() {
            return joinBytes(block, 0, BLOCK);
        }

        long low() {
            return joinBytes(block, 8, BLOCK);
        }
    }

    /** A block as a polynomial modulo x^128 + x^7 + x^2 + x + 1; the highest bit stands for 1. */
    private static final class Galois {
        /** What x^128 is: 1 + x + x^2 + x^7. */
        private static final long OVERFLOW = 0xe1L << 56;

        private long high;
        private long low;

        Galois() {
            high = 0;
            low = 0;
        }

        void put(long newHigh, long newLow) {
            high = newHigh;
            low = newLow;
        }

        void add(long otherHigh, long otherLow) {
            high ^= otherHigh;
            low ^= otherLow;
        }

        void multiply(long otherHigh, long otherLow) {
            long sumHigh = 0;
            long sumLow = 0;
            long shiftedHigh = otherHigh;
            long shiftedLow = otherLow;
            for (int i = 0; i < 128; i++) {
                long half = i < 64 ? high : low;
                // All ones where the bit for x^i is set, else zero.
                long chosen = -((half >>> (63 - i % 64)) & 1);
                sumHigh ^= shiftedHigh & chosen;
                sumLow ^= shiftedLow & chosen;
                long over = -(shiftedLow & 1);
                shiftedLow = (shiftedLow >>> 1) | (shiftedHigh << 63);
                shiftedHigh = (shiftedHigh >>> 1) ^ (over & OVERFLOW);
            }
            high = sumHigh;
            low = sumLow;
        }

        long high() {
            return high;
        }

        long low() {
            return low;
        }
    }
}
