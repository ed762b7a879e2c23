import java.math.BigInteger;
import java.security.GeneralSecurityException;
import java.util.Arrays;
import javax.crypto.Cipher;
import javax.crypto.spec.GCMParameterSpec;
import javax.crypto.spec.SecretKeySpec;

/** What the Java library answers, and a product by the words of the document alone. */
final class Reference {
    private Reference() {
    }

    static byte[] encrypt(byte[] key, byte[] block) {
        return cipherBlock(Cipher.ENCRYPT_MODE, key, block);
    }

    static byte[] decrypt(byte[] key, byte[] block) {
        return cipherBlock(Cipher.DECRYPT_MODE, key, block);
    }

    private static byte[] cipherBlock(int mode, byte[] key, byte[] block) {
        try {
            Cipher cipher = Cipher.getInstance("AES/ECB/NoPadding");
            cipher.init(mode, new SecretKeySpec(key, "AES"));
            return cipher.doFinal(block);
        } catch (GeneralSecurityException e) {
            throw new AssertionError(e);
        }
    }

    /** The sealed text with the tag's 16 bytes behind it. */
    static byte[] seal(byte[] key, byte[] nonce, byte[] aside, byte[] text) {
        try {
            Cipher cipher = Cipher.getInstance("AES/GCM/NoPadding");
            cipher.init(Cipher.ENCRYPT_MODE, new SecretKeySpec(key, "AES"), new GCMParameterSpec(128, nonce));
            cipher.updateAAD(aside);
            return cipher.doFinal(text);
        } catch (GeneralSecurityException e) {
            throw new AssertionError(e);
        }
    }

    static byte[] withoutTag(byte[] sealedAndTag) {
        return Arrays.copyOf(sealedAndTag, sealedAndTag.length - 16);
    }

    static long tagHigh(byte[] sealedAndTag) {
        return Bytes.highestFirst(sealedAndTag, sealedAndTag.length - 16);
    }

    static long tagLow(byte[] sealedAndTag) {
        return Bytes.highestFirst(sealedAndTag, sealedAndTag.length - 8);
    }

    /** Multiplies without a modulus first, then takes it away from the highest power down. */
    static byte[] product(byte[] a, byte[] b) {
        BigInteger left = polynomial(a);
        BigInteger right = polynomial(b);
        BigInteger sum = BigInteger.ZERO;
        for (int i = 0; i < 128; i++) {
            if (left.testBit(i)) {
                sum = sum.xor(right.shiftLeft(i));
            }
        }
        BigInteger modulus = BigInteger.ONE.shiftLeft(128).xor(BigInteger.valueOf(0b10000111));
        for (int i = 255; i >= 128; i--) {
            if (sum.testBit(i)) {
                sum = sum.xor(modulus.shiftLeft(i - 128));
            }
        }
        return block(sum);
    }

    private static BigInteger polynomial(byte[] block) {
        BigInteger p = BigInteger.ZERO;
        for (int i = 0; i < 128; i++) {
            if ((block[i / 8] >> (7 - i % 8) & 1) == 1) {
                p = p.setBit(i);
            }
        }
        return p;
    }

    private static byte[] block(BigInteger polynomial) {
        byte[] block = new byte[16];
        for (int i = 0; i < 128; i++) {
            if (polynomial.testBit(i)) {
                block[i / 8] |= (byte) (128 >> i % 8);
            }
        }
        return block;
    }
}
