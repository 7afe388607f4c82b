/** Promises 15 to 18: what is told of the latest token that was ACCEPTED. */
public final class AcceptedTest {
    private static final byte[] SECRET = Bench.ascii("secret");
    private static final long MOST = 1L << 53;

    public static void main(String[] args) {
        texts();
        numbers();
        audiences();
        latest();
        counts();
        roundTrip();
        Bench.close();
    }

    private static Desk desk() {
        Desk x = new Desk();
        Bench.addKey(x, 0, "q", SECRET);
        return x;
    }

    private static void accept(Desk x, String payload) {
        Bench.due("payload " + payload, Bench.verify(x, 0, Bench.jws("{\"alg\":\"HS256\",\"kid\":\"q\"}", payload, 0, SECRET)), 0);
    }

    private static void acceptCose(Desk x, String payload) {
        Bench.due("payload " + payload, Bench.verify(x, 1, Bench.cose(Bench.hex("a10105"), Bench.hex(payload), 0, SECRET)), 0);
    }

    private static void dueText(Desk x, int claim, int k, String want) {
        for (int i = 0; i < want.length(); i++) {
            Bench.due("sign(" + claim + ", " + k + ", " + i + ")", x.sign(claim, k, i), want.charAt(i));
        }
        for (int i : new int[] {-1, want.length(), Integer.MAX_VALUE, Integer.MIN_VALUE}) {
            Bench.due("sign(" + claim + ", " + k + ", " + i + ")", x.sign(claim, k, i), -1);
        }
    }

    private static void texts() {
        Desk x = desk();
        accept(x, "{\"iss\":\"a\\\"\\\\\\/\\b\\f\\n\\r\\t\\u0000\\uFFFF\\ud800\\u00e4~\",\"x\":\"between\",\"sub\":\"\"}");
        String want = "a\"\\/\b\f\n\r\t\u0000\uFFFF\ud800\u00e4~";
        Bench.due("has(0)", x.has(0), want.length());
        for (int k : new int[] {0, 1, -1, 7, Integer.MAX_VALUE, Integer.MIN_VALUE}) {
            dueText(x, 0, k, want);
            dueText(x, 1, k, "");
        }
        Bench.due("has(1)", x.has(1), 0);
        for (int claim : new int[] {-1, 2, 3, 4, 5, 6, Integer.MAX_VALUE, Integer.MIN_VALUE}) {
            Bench.due("has(" + claim + ")", x.has(claim), -1);
            Bench.due("sign(" + claim + ")", x.sign(claim, 0, 0), -1);
        }
        for (int claim = -1; claim <= 6; claim++) {
            Bench.due("claim(" + claim + ")", x.claim(claim), -1);
        }
        accept(x, "{\"sub\":\"" + "xy".repeat(100) + "\"}");
        Bench.due("has(0)", x.has(0), -1);
        Bench.due("has(1)", x.has(1), 200);
        dueText(x, 0, 0, "");
        dueText(x, 1, 0, "xy".repeat(100));
        acceptCose(x, "a2 01 63612262 02 60");
        dueText(x, 0, 0, "a\"b");
        Bench.due("has(1) of COSE", x.has(1), 0);
    }

    private static void numbers() {
        Desk x = desk();
        accept(x, "{\"exp\":9007199254740992,\"nbf\":0,\"iat\":-0}");
        Bench.due("claim(3)", x.claim(3), MOST);
        Bench.due("claim(4)", x.claim(4), 0);
        Bench.due("claim(5)", x.claim(5), 0);
        for (int claim = 3; claim < 6; claim++) {
            Bench.due("has(" + claim + ")", x.has(claim), 1);
            Bench.due("sign(" + claim + ")", x.sign(claim, 0, 0), -1);
        }
        Bench.due("claim(2)", x.claim(2), -1);
        Bench.due("claim(6)", x.claim(6), -1);
        Bench.due("claim(-1)", x.claim(-1), -1);
        acceptCose(x, "a1 04 1b0020000000000000");
        Bench.due("claim(3) of COSE", x.claim(3), MOST);
        Bench.due("claim(4) of COSE", x.claim(4), -1);
        Bench.due("has(5) of COSE", x.has(5), -1);
        x.now(1000);
        long[] values = {1001, 65535, 65536, (1L << 31), (1L << 32) - 1, 1L << 32, MOST - 1};
        for (long v : values) {
            accept(x, "{\"exp\":" + v + "}");
            Bench.due("claim(3) " + v, x.claim(3), v);
        }
    }

    private static void audiences() {
        Desk x = desk();
        accept(x, "{\"aud\":\"abc\"}");
        Bench.due("has(2)", x.has(2), 3);
        Bench.due("count(1)", x.count(1), 1);
        dueText(x, 2, 0, "abc");
        dueText(x, 2, 1, "");
        dueText(x, 2, -1, "");
        accept(x, "{\"aud\":[\"\",\"a\",\"bcd\\u1234\"]}");
        Bench.due("has(2) of an empty first", x.has(2), 0);
        Bench.due("count(1)", x.count(1), 3);
        dueText(x, 2, 0, "");
        dueText(x, 2, 1, "a");
        dueText(x, 2, 2, "bcd\u1234");
        dueText(x, 2, 3, "");
        dueText(x, 2, Integer.MAX_VALUE, "");
        dueText(x, 2, Integer.MIN_VALUE, "");
        accept(x, "{\"aud\":[]}");
        Bench.due("has(2) of no text", x.has(2), 0);
        Bench.due("count(1) of no text", x.count(1), 0);
        dueText(x, 2, 0, "");
        accept(x, "{}");
        Bench.due("has(2) without", x.has(2), -1);
        Bench.due("count(1) without", x.count(1), 0);
        dueText(x, 2, 0, "");
        acceptCose(x, "a1 03 94" + "6178".repeat(19) + "627879");
        Bench.due("has(2) of 20", x.has(2), 1);
        Bench.due("count(1) of 20", x.count(1), 20);
        dueText(x, 2, 0, "x");
        dueText(x, 2, 18, "x");
        dueText(x, 2, 19, "xy");
        dueText(x, 2, 20, "");
    }

    /** What is refused leaves all that is told as it was. */
    private static void latest() {
        Desk x = desk();
        accept(x, "{\"iss\":\"first\",\"aud\":[\"a\",\"b\"],\"exp\":7}");
        String[] refused = {"{\"iss\":\"other\",\"aud\":[\"c\"],\"exp\":0}", "{\"iss\":\"other\",\"sub\":1}", "{\"iss\":\"other\"", "{\"iat\":1}"};
        for (String payload : refused) {
            Bench.due("refused " + payload, Bench.verify(x, 0, Bench.jws("{\"alg\":\"HS256\"}", payload, 0, SECRET)) > 0, true);
            Bench.verify(x, 1, Bench.cose(Bench.hex("a10105"), Bench.hex("a2 01 6178 04 00"), 0, SECRET));
            Bench.due("has(0)", x.has(0), 5);
            dueText(x, 0, 0, "first");
            Bench.due("has(1)", x.has(1), -1);
            dueText(x, 2, 0, "a");
            dueText(x, 2, 1, "b");
            Bench.due("count(1)", x.count(1), 2);
            Bench.due("claim(3)", x.claim(3), 7);
            Bench.due("claim(5)", x.claim(5), -1);
            Bench.due("count(0)", x.count(0), 0);
        }
        Bench.due("ACCEPTED", x.count(2), 1);
        Bench.due("refused", x.count(3), 8);
        Bench.put(x, "iss");
        x.text(0);
        x.number(3, 99);
        x.issue(0, 0);
        Bench.due("what is to be ISSUED is another matter", x.claim(3), 7);
        for (int i = 0; i < 5; i++) {
            accept(x, "{\"iss\":\"" + "i".repeat(i) + "\"}");
            Bench.due("has(0) " + i, x.has(0), i);
            Bench.due("claim(3) " + i, x.claim(3), -1);
            Bench.due("has(2) " + i, x.has(2), -1);
        }
    }

    private static void counts() {
        Desk x = desk();
        Bench.addKey(x, 1, "r", SECRET);
        Bench.verify(x, 0, Bench.ascii("x"));
        Bench.due("count(0) before one", x.count(0), -1);
        Bench.due("count(1) before one", x.count(1), -1);
        Bench.due("count(3)", x.count(3), 1);
        Bench.due("the second KEY", Bench.verify(x, 1, Bench.cose(Bench.hex("a2 01 07 04 4172"), Bench.hex("a0"), 1, SECRET)), 0);
        Bench.due("count(0)", x.count(0), 1);
        Bench.due("count(1)", x.count(1), 0);
        Bench.due("count(2)", x.count(2), 1);
        x.verify(2);
        Bench.due("count(3) after verify(2)", x.count(3), 1);
        x.issue(0, 0);
        x.issue(1, 5);
        Bench.due("count(4)", x.count(4), 1);
        Bench.due("count(5)", x.count(5), 2);
        Bench.put(x, "12345");
        Bench.due("count(6)", x.count(6), 5);
        Bench.due("count(7)", x.count(7), Bench.jws("{\"alg\":\"HS256\",\"kid\":\"q\"}", "{}", 0, SECRET).length);
        for (int what : new int[] {-1, 8, Integer.MAX_VALUE, Integer.MIN_VALUE}) {
            Bench.due("count(" + what + ")", x.count(what), -1);
        }
    }

    /** What the desk ISSUED is ACCEPTED, and tells the same CLAIMS. */
    private static void roundTrip() {
        Desk x = new Desk();
        Bench.addKey(x, 0, "\"\\", SECRET);
        Bench.addKey(x, 1, " ", SECRET);
        String[] texts = {"a\"b\\c", "", "~ /" + "\\".repeat(37)};
        for (int claim = 0; claim < 3; claim++) {
            Bench.put(x, texts[claim]);
            x.text(claim);
        }
        x.number(3, MOST);
        x.number(4, 0);
        x.number(5, 1000);
        x.now(1000);
        for (int family = 0; family < 2; family++) {
            for (int key = 0; key < 2; key++) {
                x.back(0, x.issue(family, key));
                Bench.due("round trip", x.verify(family), 0);
                Bench.due("its KEY", x.count(0), key);
                for (int claim = 0; claim < 3; claim++) {
                    Bench.due("its text", x.has(claim), texts[claim].length());
                    dueText(x, claim, 0, texts[claim]);
                }
                Bench.due("claim(3)", x.claim(3), MOST);
                Bench.due("claim(4)", x.claim(4), 0);
                Bench.due("claim(5)", x.claim(5), 1000);
                x.back(0, x.count(7));
                Bench.due("as the other family", x.verify(1 - family), 1);
            }
        }
    }
}
