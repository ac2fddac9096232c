import java.nio.ByteBuffer;
import java.nio.charset.StandardCharsets;
import java.security.GeneralSecurityException;
import java.util.Arrays;
import java.util.Base64;
import javax.crypto.Mac;
import javax.crypto.spec.SecretKeySpec;

/** What the document's terms come to, by the Java library and not by the program. */
final class Reference {
    static final byte[] ZERO_KEY = new byte[16];

    private Reference() {
    }

    static byte[] mac(byte[] key, byte[] message) {
        try {
            Mac mac = Mac.getInstance("HmacSHA256");
            mac.init(new SecretKeySpec(key, "HmacSHA256"));
            return mac.doFinal(message);
        } catch (GeneralSecurityException e) {
            throw new AssertionError(e);
        }
    }

    static byte[] key(int a, int b, int c, int d) {
        return ByteBuffer.allocate(16).putInt(a).putInt(b).putInt(c).putInt(d).array();
    }

    static long id(long seed, long before) {
        byte[] key = ByteBuffer.allocate(8).putLong(seed).array();
        byte[] message = ByteBuffer.allocate(8).putLong(before).array();
        return ByteBuffer.wrap(mac(key, message)).getLong();
    }

    static byte[] body(int keyNumber, int user, long id) {
        return ByteBuffer.allocate(10).put((byte) keyNumber).put((byte) user).putLong(id).array();
    }

    static String cookie(int keyNumber, byte[] key, int user, long id) {
        byte[] body = body(keyNumber, user, id);
        return coded(ByteBuffer.allocate(22).put(body).put(mac(key, body), 0, 12).array());
    }

    static String token(int keyNumber, byte[] key, int user, long id) {
        byte[] marked = ByteBuffer.allocate(11).put((byte) 84).put(body(keyNumber, user, id)).array();
        return coded(Arrays.copyOf(mac(key, marked), 9));
    }

    /** What GateView.texts shows of a gate that bears these. */
    static String texts(int keyNumber, byte[] key, int user, long id) {
        return cookie(keyNumber, key, user, id) + " " + token(keyNumber, key, user, id);
    }

    static String coded(byte[] bytes) {
        return Base64.getUrlEncoder().withoutPadding().encodeToString(bytes);
    }

    /** The 22 bytes that a cookie is coded from, or null. */
    static byte[] cookieBytes(String text) {
        if (!text.matches("[A-Za-z0-9_-]{30}")) {
            return null;
        }
        byte[] bytes = Base64.getUrlDecoder().decode(text);
        return coded(bytes).equals(text) ? bytes : null;
    }

    static byte[] latin(String text) {
        return text.getBytes(StandardCharsets.ISO_8859_1);
    }
}
