import java.util.Arrays;

/** Promise 4, and count(5). */
public final class KeyTest {
    private static final byte[] SECRET = Bench.ascii("secret");

    public static void main(String[] args) {
        numbers();
        kids();
        secrets();
        algs();
        secretsThatSign();
        Bench.close();
    }

    private static void numbers() {
        Desk x = new Desk();
        for (int i = 0; i < 6; i++) {
            Bench.due("key " + i, Bench.addKey(x, i % 2, "k" + i, SECRET), i);
            Bench.due("keys", x.count(5), i + 1);
            Bench.due("the TAPE is empty", x.count(6), 0);
        }
        Bench.due("a seventh", Bench.addKey(x, 0, "new", SECRET), -1);
        Bench.due("the TAPE is empty all the same", x.count(6), 0);
        Bench.due("keys at last", x.count(5), 6);
    }

    private static void kids() {
        Desk x = new Desk();
        Bench.put(x, "abc");
        Bench.due("key(0, 0)", x.key(0, 0), -1);
        Bench.due("empty after it", x.count(6), 0);
        Bench.put(x, "abc");
        Bench.due("key(0, -1)", x.key(0, -1), -1);
        Bench.put(x, "abc");
        Bench.due("key(0, least)", x.key(0, Integer.MIN_VALUE), -1);
        Bench.put(x, "abc");
        Bench.due("key(0, most)", x.key(0, Integer.MAX_VALUE), -1);
        Bench.put(x, "abc");
        Bench.due("a KID longer than the TAPE", x.key(0, 4), -1);
        Bench.put(x, "abc");
        Bench.due("a KID and no secret", x.key(0, 3), -1);
        Bench.due("no TAPE", x.key(0, 1), -1);
        Bench.due("a KID of 9", Bench.addKey(x, 0, "123456789", SECRET), -1);
        Bench.due("a byte 31", Bench.addKey(x, 0, "a\u001fb", SECRET), -1);
        Bench.due("a byte 127", Bench.addKey(x, 0, "a\u007f", SECRET), -1);
        Bench.due("a byte 128", Bench.addKey(x, 0, "\u0080", SECRET), -1);
        Bench.due("a byte 255", Bench.addKey(x, 0, "\u00ff", SECRET), -1);
        Bench.due("none so far", x.count(5), 0);
        Bench.due("a KID of 8, bytes 32 and 126", Bench.addKey(x, 0, " ~345678", SECRET), 0);
        Bench.due("the same one", Bench.addKey(x, 1, " ~345678", Bench.ascii("else")), -1);
        Bench.due("its beginning", Bench.addKey(x, 1, " ~34567", SECRET), 1);
        Bench.due("one byte of it", Bench.addKey(x, 1, " ", SECRET), 2);
        Bench.due("the first again", Bench.addKey(x, 1, " ~345678", SECRET), -1);
        Bench.due("the last again", Bench.addKey(x, 0, " ", SECRET), -1);
        Bench.due("KEYS", x.count(5), 3);
    }

    private static void secrets() {
        Desk x = new Desk();
        Bench.due("a secret of 65", Bench.addKey(x, 0, "a", new byte[65]), -1);
        Bench.due("a secret of 64", Bench.addKey(x, 0, "a", new byte[64]), 0);
        Bench.due("a secret of 1", Bench.addKey(x, 0, "b", new byte[1]), 1);
        Bench.due("a secret of 0", Bench.addKey(x, 0, "c", new byte[0]), -1);
        Bench.due("a KID of 8, a secret of 64", Bench.addKey(x, 0, "12345678", new byte[64]), 2);
        Bench.due("a KID of 8, a secret of 65", Bench.addKey(x, 0, "12345679", new byte[65]), -1);
    }

    private static void algs() {
        Desk x = new Desk();
        Bench.due("alg -1", Bench.addKey(x, -1, "a", SECRET), -1);
        Bench.due("the TAPE is empty", x.count(6), 0);
        Bench.due("alg 2", Bench.addKey(x, 2, "a", SECRET), -1);
        Bench.due("alg most", Bench.addKey(x, Integer.MAX_VALUE, "a", SECRET), -1);
        Bench.due("alg 1", Bench.addKey(x, 1, "a", SECRET), 0);
    }

    /** The secret is all behind the KID, whatever its bytes and its length. */
    private static void secretsThatSign() {
        for (int alg = 0; alg < 2; alg++) {
            for (int size = 1; size <= 64; size++) {
                Desk x = new Desk();
                byte[] secret = new byte[size];
                Arrays.fill(secret, (byte) (255 - size));
                secret[size - 1] = (byte) size;
                Bench.addKey(x, 1 - alg, "other", new byte[64]);
                Bench.addKey(x, alg, "kid", secret);
                x.issue(0, 1);
                String header = alg == 0 ? "{\"alg\":\"HS256\",\"kid\":\"kid\"}" : "{\"alg\":\"HS512\",\"kid\":\"kid\"}";
                Bench.dueOut("a secret of " + size, x, Bench.jws(header, "{}", alg, secret));
            }
        }
    }
}
