import java.nio.ByteBuffer;
import java.nio.charset.StandardCharsets;
import java.security.GeneralSecurityException;
import java.security.MessageDigest;
import java.util.Arrays;

import javax.crypto.Mac;
import javax.crypto.spec.SecretKeySpec;

/** Digest, seal and keys by the Java library, which shares nothing with the program. */
final class Crypto {
    private Crypto() {
    }

    static byte[] digest(byte[] row) {
        try {
            return MessageDigest.getInstance("SHA-256").digest(row);
        } catch (GeneralSecurityException e) {
            throw new AssertionError(e);
        }
    }

    static byte[] seal(byte[] row, byte[] key) {
        try {
            Mac mac = Mac.getInstance("HmacSHA256");
            mac.init(new SecretKeySpec(key, "HmacSHA256"));
            return mac.doFinal(row);
        } catch (GeneralSecurityException e) {
            throw new AssertionError(e);
        }
    }

    static byte[] text(String s) {
        return s.getBytes(StandardCharsets.ISO_8859_1);
    }

    static byte[] topKey(int a, int b, int c, int d, int e) {
        return ByteBuffer.allocate(20).putInt(a).putInt(b).putInt(c).putInt(d).putInt(e).array();
    }

    /** The key so many steps below the given one. */
    static byte[] down(byte[] key, int steps) {
        byte[] k = key;
        for (int i = 0; i < steps; i++) {
            k = Arrays.copyOf(seal(text("chain"), k), 20);
        }
        return k;
    }

    /** The first 10 bytes of the seal of a row by the code key of a key. */
    static byte[] code(byte[] row, byte[] key) {
        return Arrays.copyOf(seal(row, seal(text("mac"), key)), 10);
    }

    static int word(byte[] row, int i) {
        return ByteBuffer.wrap(row).getInt(4 * i);
    }
}
