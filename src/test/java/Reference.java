import java.math.BigInteger;
import java.security.GeneralSecurityException;
import java.util.Arrays;
import javax.crypto.Cipher;
import javax.crypto.spec.GCMParameterSpec;
import javax.crypto.spec.SecretKeySpec;

/** What the Java library answers; words, SUBST and the product by the words of the document alone. */
final class Reference {
    private Reference() {
    }

    static byte[] encrypt(byte[] key, byte[] block) {
        return cipherBlock(Cipher.ENCRYPT_MODE, key, block);
    }

    static byte[] decrypt(byte[] key, byte[] block) {
        return cipherBlock(Cipher.DECRYPT_MODE, key, block);
    }

    private static byte[] cipherBlock(int mode, byte[] key, byte[] block) {
        try {
            Cipher cipher = Cipher.getInstance("AES/ECB/NoPadding");
            cipher.init(mode, new SecretKeySpec(key, "AES"));
            return cipher.doFinal(block);
        } catch (GeneralSecurityException e) {
            throw new AssertionError(e);
        }
    }

    /** The sealed text with the tag's 16 bytes behind it. */
    static byte[] seal(byte[] key, byte[] nonce, byte[] aside, byte[] text) {
        try {
            Cipher cipher = Cipher.getInstance("AES/GCM/NoPadding");
            cipher.init(Cipher.ENCRYPT_MODE, new SecretKeySpec(key, "AES"), new GCMParameterSpec(128, nonce));
            cipher.updateAAD(aside);
            return cipher.doFinal(text);
        } catch (GeneralSecurityException e) {
            throw new AssertionError(e);
        }
    }

    static byte[] withoutTag(byte[] sealedAndTag) {
        return Arrays.copyOf(sealedAndTag, sealedAndTag.length - 16);
    }

    static long tagHigh(byte[] sealedAndTag) {
        return Bytes.highestFirst(sealedAndTag, sealedAndTag.length - 16);
    }

    static long tagLow(byte[] sealedAndTag) {
        return Bytes.highestFirst(sealedAndTag, sealedAndTag.length - 8);
    }

    static int[] words(long high, long low) {
        int[] w = new int[44];
        int r = 1;
        for (int i = 0; i < 44; i++) {
            if (i < 4) {
                w[i] = (int) ((i < 2 ? high : low) >> (i % 2 == 0 ? 32 : 0));
                continue;
            }
            int t = w[i - 1];
            if (i % 4 == 0) {
                int moved = t << 8 | t >>> 24;
                t = 0;
                for (int shift = 24; shift >= 0; shift -= 8) {
                    t |= subst(moved >>> shift & 255) << shift;
                }
                t ^= r << 24;
                r = mul(2, r);
            }
            w[i] = w[i - 4] ^ t;
        }
        return w;
    }

    static int mul(int a, int b) {
        int product = 0;
        for (int i = 0; i < 8; i++) {
            if ((a >> i & 1) == 1) {
                product ^= b << i;
            }
        }
        for (int i = 15; i >= 8; i--) {
            if ((product >> i & 1) == 1) {
                product ^= 0b100011011 << (i - 8);
            }
        }
        return product;
    }

    static int subst(int b) {
        int c = 0;
        for (int candidate = 1; candidate < 256; candidate++) {
            if (mul(b, candidate) == 1) {
                c = candidate;
            }
        }
        int s = 0;
        for (int i = 0; i < 8; i++) {
            int bit = c >> i ^ c >> (i + 4) % 8 ^ c >> (i + 5) % 8 ^ c >> (i + 6) % 8 ^ c >> (i + 7) % 8 ^ 99 >> i;
            s |= (bit & 1) << i;
        }
        return s;
    }

    /** Multiplies without a modulus first, then takes it away from the highest power down. */
    static byte[] product(byte[] a, byte[] b) {
        BigInteger left = polynomial(a);
        BigInteger right = polynomial(b);
        BigInteger sum = BigInteger.ZERO;
        for (int i = 0; i < 128; i++) {
            if (left.testBit(i)) {
                sum = sum.xor(right.shiftLeft(i));
            }
        }
        BigInteger modulus = BigInteger.ONE.shiftLeft(128).xor(BigInteger.valueOf(0b10000111));
        for (int i = 255; i >= 128; i--) {
            if (sum.testBit(i)) {
                sum = sum.xor(modulus.shiftLeft(i - 128));
            }
        }
        return block(sum);
    }

    private static BigInteger polynomial(byte[] block) {
        BigInteger p = BigInteger.ZERO;
        for (int i = 0; i < 128; i++) {
            if ((block[i / 8] >> (7 - i % 8) & 1) == 1) {
                p = p.setBit(i);
            }
        }
        return p;
    }

    private static byte[] block(BigInteger polynomial) {
        byte[] block = new byte[16];
        for (int i = 0; i < 128; i++) {
            if (polynomial.testBit(i)) {
                block[i / 8] |= (byte) (128 >> i % 8);
            }
        }
        return block;
    }
}
