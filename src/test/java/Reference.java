import java.math.BigInteger;
import java.security.GeneralSecurityException;
import java.security.MessageDigest;
import java.util.Arrays;
import javax.crypto.AEADBadTagException;
import javax.crypto.Cipher;
import javax.crypto.Mac;
import javax.crypto.spec.ChaCha20ParameterSpec;
import javax.crypto.spec.IvParameterSpec;
import javax.crypto.spec.SecretKeySpec;

/** The document's terms by the Java library, and SUM by whole numbers as RFC 8439 tells it. */
final class Reference {
    static final BigInteger PRIME = BigInteger.TWO.pow(130).subtract(BigInteger.valueOf(5));
    private static final BigInteger CLAMP = new BigInteger("0ffffffc0ffffffc0ffffffc0fffffff", 16);

    private Reference() {
    }

    static byte[] stream(byte[] key, byte[] nonce, int counter) {
        try {
            Cipher cipher = Cipher.getInstance("ChaCha20");
            cipher.init(Cipher.ENCRYPT_MODE, new SecretKeySpec(key, "ChaCha20"),
                    new ChaCha20ParameterSpec(nonce, counter));
            return cipher.doFinal(new byte[64]);
        } catch (GeneralSecurityException e) {
            throw new IllegalStateException(e);
        }
    }

    static byte[] sum(byte[] key, byte[] row) {
        BigInteger factor = factor(key);
        BigInteger total = BigInteger.ZERO;
        for (int at = 0; at < row.length; at += 16) {
            byte[] block = Arrays.copyOfRange(row, at, Math.min(at + 16, row.length));
            BigInteger number = lowestFirst(block).setBit(8 * block.length);
            total = total.add(number).multiply(factor).mod(PRIME);
        }
        return lowestFirst(total.add(lowestFirst(Arrays.copyOfRange(key, 16, 32))), 16);
    }

    static BigInteger factor(byte[] key) {
        return lowestFirst(Arrays.copyOfRange(key, 0, 16)).and(CLAMP);
    }

    static byte[] lowestFirst(BigInteger number, int size) {
        byte[] row = new byte[size];
        for (int i = 0; i < size; i++) {
            row[i] = number.shiftRight(8 * i).byteValue();
        }
        return row;
    }

    static byte[] seal(byte[] key, byte[] nonce, byte[] head, byte[] body) {
        try {
            return sealer(Cipher.ENCRYPT_MODE, key, nonce, head).doFinal(body);
        } catch (GeneralSecurityException e) {
            throw new IllegalStateException(e);
        }
    }

    /** Answers null if the sum does not fit. */
    static byte[] open(byte[] key, byte[] nonce, byte[] head, byte[] sealed) {
        try {
            return sealer(Cipher.DECRYPT_MODE, key, nonce, head).doFinal(sealed);
        } catch (AEADBadTagException e) {
            return null;
        } catch (GeneralSecurityException e) {
            throw new IllegalStateException(e);
        }
    }

    static byte[] digest(byte[] row) {
        try {
            return MessageDigest.getInstance("SHA-256").digest(row);
        } catch (GeneralSecurityException e) {
            throw new IllegalStateException(e);
        }
    }

    static byte[] mac(byte[] key, byte[] row) {
        try {
            Mac mac = Mac.getInstance("HmacSHA256");
            mac.init(new SecretKeySpec(key, "HmacSHA256"));
            return mac.doFinal(row);
        } catch (GeneralSecurityException e) {
            throw new IllegalStateException(e);
        }
    }

    private static Cipher sealer(int mode, byte[] key, byte[] nonce, byte[] head) throws GeneralSecurityException {
        Cipher cipher = Cipher.getInstance("ChaCha20-Poly1305");
        cipher.init(mode, new SecretKeySpec(key, "ChaCha20"), new IvParameterSpec(nonce));
        cipher.updateAAD(head);
        return cipher;
    }

    private static BigInteger lowestFirst(byte[] row) {
        BigInteger number = BigInteger.ZERO;
        for (int i = row.length - 1; i >= 0; i--) {
            number = number.shiftLeft(8).or(BigInteger.valueOf(row[i] & 255));
        }
        return number;
    }
}
