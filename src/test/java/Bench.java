import java.io.ByteArrayOutputStream;
import java.nio.charset.StandardCharsets;
import java.security.MessageDigest;
import java.util.Base64;
import javax.crypto.Mac;
import javax.crypto.spec.SecretKeySpec;

/** What the tests share: counting wrong answers, putting bytes on a desk's TAPE, making tokens by the Java library. */
final class Bench {
    private static int wrong = 0;
    private static int asked = 0;

    private Bench() {
    }

    static void due(String what, long got, long want) {
        asked++;
        if (got != want) {
            wrong++;
            System.out.println(what + " answered " + got + ", due is " + want);
        }
    }

    static void due(String what, boolean got, boolean want) {
        due(what, got ? 1 : 0, want ? 1 : 0);
    }

    static int asked() {
        return asked;
    }

    static void close() {
        System.out.println(asked + " answers, " + wrong + " not as due");
        if (wrong != 0 || asked == 0) {
            System.exit(1);
        }
    }

    static byte[] ascii(String text) {
        return text.getBytes(StandardCharsets.ISO_8859_1);
    }

    static byte[] hex(String text) {
        String digits = text.replace(" ", "");
        byte[] bytes = new byte[digits.length() / 2];
        for (int i = 0; i < bytes.length; i++) {
            bytes[i] = (byte) Integer.parseInt(digits.substring(2 * i, 2 * i + 2), 16);
        }
        return bytes;
    }

    static byte[] join(byte[]... rows) {
        ByteArrayOutputStream all = new ByteArrayOutputStream();
        for (byte[] row : rows) {
            all.writeBytes(row);
        }
        return all.toByteArray();
    }

    /** Puts bytes behind the TAPE, as many as there are. */
    static void put(Desk x, byte[] bytes) {
        int before = x.count(6);
        for (int at = 0; at < bytes.length; at += 20) {
            int[] words = new int[5];
            for (int i = 0; i < 20; i++) {
                int b = at + i < bytes.length ? bytes[at + i] & 255 : 0;
                words[i / 4] |= b << (24 - 8 * (i % 4));
            }
            x.feed(words[0], words[1], words[2], words[3], words[4]);
        }
        x.end(before + bytes.length);
    }

    static void put(Desk x, String text) {
        put(x, ascii(text));
    }

    static int addKey(Desk x, int alg, String kid, byte[] secret) {
        x.end(0);
        put(x, join(ascii(kid), secret));
        return x.key(alg, kid.length());
    }

    static int verify(Desk x, int family, byte[] token) {
        x.end(0);
        put(x, token);
        return x.verify(family);
    }

    static byte[] mac(int alg, byte[] secret, byte[] bytes) {
        try {
            String name = alg == 0 ? "HmacSHA256" : "HmacSHA512";
            Mac mac = Mac.getInstance(name);
            mac.init(new SecretKeySpec(secret, name));
            return mac.doFinal(bytes);
        } catch (java.security.GeneralSecurityException e) {
            throw new IllegalStateException(e);
        }
    }

    static String base64(byte[] bytes) {
        return Base64.getUrlEncoder().withoutPadding().encodeToString(bytes);
    }

    static byte[] jws(byte[] header, byte[] payload, int alg, byte[] secret) {
        String ahead = base64(header) + "." + base64(payload);
        return ascii(ahead + "." + base64(mac(alg, secret, ascii(ahead))));
    }

    static byte[] jws(String header, String payload, int alg, byte[] secret) {
        return jws(ascii(header), ascii(payload), alg, secret);
    }

    /** A CBOR head in the fewest bytes. */
    static byte[] head(int type, long v) {
        int size = v < 24 ? 0 : v < 1L << 8 ? 1 : v < 1L << 16 ? 2 : v < 1L << 32 ? 4 : 8;
        int info = size == 0 ? (int) v : size == 1 ? 24 : size == 2 ? 25 : size == 4 ? 26 : 27;
        byte[] bytes = new byte[1 + size];
        bytes[0] = (byte) (type << 5 | info);
        for (int i = 0; i < size; i++) {
            bytes[1 + i] = (byte) (v >>> 8 * (size - 1 - i));
        }
        return bytes;
    }

    static byte[] row(byte[] bytes) {
        return join(head(2, bytes.length), bytes);
    }

    static byte[] text(String text) {
        return join(head(3, text.length()), ascii(text));
    }

    static byte[] cose(byte[] header, byte[] payload, int alg, byte[] secret) {
        byte[] secured = join(hex("84 64 4d414330"), row(header), hex("40"), row(payload));
        return join(hex("d184"), row(header), hex("a0"), row(payload), row(mac(alg, secret, secured)));
    }

    static byte[] out(Desk x) {
        byte[] bytes = new byte[Math.max(x.count(7), 0)];
        for (int i = 0; i < bytes.length; i++) {
            bytes[i] = (byte) x.octet(i);
        }
        return bytes;
    }

    static void dueOut(String what, Desk x, byte[] want) {
        byte[] got = out(x);
        boolean same = java.util.Arrays.equals(got, want);
        due(what, same, true);
        if (!same) {
            System.out.println("  got  " + new String(got, StandardCharsets.ISO_8859_1));
            System.out.println("  want " + new String(want, StandardCharsets.ISO_8859_1));
        }
    }

    static byte[] digest(int alg, byte[] bytes) {
        try {
            return MessageDigest.getInstance(alg == 0 ? "SHA-256" : "SHA-512").digest(bytes);
        } catch (java.security.GeneralSecurityException e) {
            throw new IllegalStateException(e);
        }
    }

    /** The TAPE is these bytes, as its length and its hash tell. */
    static void dueTape(String what, Desk x, byte[] want) {
        due(what + ": the TAPE's length", x.count(6), want.length);
        byte[] sum = digest(0, want);
        for (int i = 0; i < 16; i++) {
            due(what + ": the TAPE's hash, byte " + i, x.hash(0, i), sum[i] & 255);
        }
    }

    /** Like dueOut(), by fewer calls than one for each byte; the TAPE is OUT's copy then. */
    static void dueOutOnTape(String what, Desk x, byte[] want) {
        due(what + ": OUT's length", x.count(7), want.length);
        x.end(0);
        x.back(0, want.length);
        dueTape(what + ": OUT", x, want);
    }
}
