import java.util.Arrays;

/** Promises 5 to 10, and count(4), count(7). */
public final class IssueTest {
    private static final byte[] SECRET = Bench.ascii("secret");
    private static final long MOST = 1L << 53;

    public static void main(String[] args) {
        texts();
        numbers();
        unset();
        without();
        jws();
        cose();
        coseNumbers();
        longest();
        octets();
        back();
        Bench.close();
    }

    private static Desk desk() {
        Desk x = new Desk();
        Bench.addKey(x, 0, "q", SECRET);
        Bench.addKey(x, 1, "\"\\ ~", SECRET);
        return x;
    }

    private static void setText(Desk x, int claim, String text) {
        Bench.put(x, text);
        Bench.due("text(" + claim + ") " + text, x.text(claim), text.length());
        Bench.due("the TAPE is empty", x.count(6), 0);
    }

    private static void refuseText(Desk x, int claim, String text) {
        Bench.put(x, text);
        Bench.due("no text(" + claim + ") " + text, x.text(claim), -1);
        Bench.due("the TAPE is empty all the same", x.count(6), 0);
    }

    private static void duePayload(String what, Desk x, String payload) {
        x.issue(0, 0);
        Bench.dueOutOnTape(what, x, Bench.jws("{\"alg\":\"HS256\",\"kid\":\"q\"}", payload, 0, SECRET));
        x.end(0);
    }

    private static void texts() {
        Desk x = desk();
        String forty = "a".repeat(39) + "~";
        setText(x, 0, forty);
        refuseText(x, 0, forty + "b");
        refuseText(x, 0, "a\u001f");
        refuseText(x, 0, "\u007fa");
        refuseText(x, 0, "\u0080");
        refuseText(x, 0, "\u00ff");
        refuseText(x, 0, "a".repeat(1500));
        refuseText(x, 3, "a");
        refuseText(x, -1, "a");
        refuseText(x, Integer.MIN_VALUE, "");
        refuseText(x, 5, "");
        duePayload("what was refused changes nothing", x, "{\"iss\":\"" + forty + "\"}");
        setText(x, 0, "");
        setText(x, 1, " ~");
        setText(x, 2, "z");
        duePayload("a text instead of another", x, "{\"iss\":\"\",\"sub\":\" ~\",\"aud\":\"z\"}");
    }

    private static void numbers() {
        Desk x = desk();
        Bench.due("number(3, 0)", x.number(3, 0), true);
        Bench.due("number(4, 2^53)", x.number(4, MOST), true);
        Bench.due("number(5, 7)", x.number(5, 7), true);
        Bench.due("number(3, -1)", x.number(3, -1), false);
        Bench.due("number(4, 2^53 + 1)", x.number(4, MOST + 1), false);
        Bench.due("number(5, least)", x.number(5, Long.MIN_VALUE), false);
        Bench.due("number(5, most)", x.number(5, Long.MAX_VALUE), false);
        Bench.due("number(2, 1)", x.number(2, 1), false);
        Bench.due("number(6, 1)", x.number(6, 1), false);
        Bench.due("number(-1, 1)", x.number(-1, 1), false);
        duePayload("numbers", x, "{\"exp\":0,\"nbf\":9007199254740992,\"iat\":7}");
        long[] edges = {1, 9, 10, 11, 99, 100, 101, 1000000000000000L, 999999999999999L, 1L << 31, 1L << 32, 1234567890L};
        for (long v : edges) {
            Desk y = desk();
            y.number(5, v);
            duePayload("number " + v, y, "{\"iat\":" + v + "}");
        }
    }

    private static void unset() {
        Desk x = desk();
        for (int claim = 0; claim < 3; claim++) {
            setText(x, claim, "t" + claim);
            x.number(claim + 3, claim);
        }
        String[] want = {
            "{\"sub\":\"t1\",\"aud\":\"t2\",\"exp\":0,\"nbf\":1,\"iat\":2}", "{\"aud\":\"t2\",\"exp\":0,\"nbf\":1,\"iat\":2}",
            "{\"exp\":0,\"nbf\":1,\"iat\":2}", "{\"nbf\":1,\"iat\":2}", "{\"iat\":2}", "{}",
        };
        for (int claim = 0; claim < 6; claim++) {
            Bench.due("unset(" + claim + ")", x.unset(claim), 1);
            Bench.due("unset(" + claim + ") again", x.unset(claim), 0);
            duePayload("without " + claim, x, want[claim]);
        }
        Bench.due("unset(-1)", x.unset(-1), -1);
        Bench.due("unset(6)", x.unset(6), -1);
        Bench.due("unset(most)", x.unset(Integer.MAX_VALUE), -1);
        setText(x, 1, "new");
        duePayload("set again", x, "{\"sub\":\"new\"}");
    }

    private static void without() {
        Desk x = desk();
        setText(x, 0, "a");
        x.issue(0, 0);
        byte[] before = Bench.out(x);
        setText(x, 0, "b");
        int[][] calls = {{0, 2}, {0, -1}, {1, 2}, {2, 0}, {-1, 0}, {0, Integer.MAX_VALUE}, {1, Integer.MIN_VALUE}};
        for (int[] call : calls) {
            Bench.due("issue(" + call[0] + ", " + call[1] + ")", x.issue(call[0], call[1]), -1);
            Bench.dueOutOnTape("OUT stays", x, before);
        }
        Bench.due("ISSUED", x.count(4), 1);
        x.issue(1, 1);
        Bench.due("ISSUED then", x.count(4), 2);
    }

    private static void jws() {
        Desk x = desk();
        setText(x, 0, "a\"b\\c/");
        setText(x, 2, "\"\"");
        x.number(4, 12);
        byte[] want = Bench.jws("{\"alg\":\"HS512\",\"kid\":\"\\\"\\\\ ~\"}",
                "{\"iss\":\"a\\\"b\\\\c/\",\"aud\":\"\\\"\\\"\",\"nbf\":12}", 1, SECRET);
        Bench.put(x, "tape");
        Bench.due("issue(0, 1)", x.issue(0, 1), want.length);
        Bench.due("count(7)", x.count(7), want.length);
        Bench.due("the TAPE stays", x.count(6), 4);
        Bench.dueOut("a JWS", x, want);
    }

    private static void cose() {
        Desk x = desk();
        Bench.due("issue(1, 0)", x.issue(1, 0), 2 + 7 + 1 + 2 + 34);
        Bench.dueOut("a COSE without claims", x, Bench.cose(Bench.hex("a2 01 05 04 4171"), Bench.hex("a0"), 0, SECRET));
        setText(x, 0, "a\"b\\c/");
        setText(x, 1, "s".repeat(24));
        setText(x, 2, "");
        x.number(3, 24);
        x.number(5, 255);
        byte[] payload = Bench.join(Bench.hex("a5 01"), Bench.text("a\"b\\c/"), Bench.hex("02 7818"), Bench.ascii("s".repeat(24)),
                Bench.hex("03 60 04 1818 06 18ff"));
        byte[] want = Bench.cose(Bench.hex("a2 01 07 04 44 22 5c 20 7e"), payload, 1, SECRET);
        Bench.due("issue(1, 1)", x.issue(1, 1), want.length);
        Bench.dueOut("a COSE", x, want);
    }

    private static void coseNumbers() {
        Desk x = desk();
        long[] edges = {0, 23, 24, 255, 256, 65535, 65536, (1L << 32) - 1, 1L << 32, MOST};
        String[] heads = {"00", "17", "1818", "18ff", "190100", "19ffff", "1a00010000", "1affffffff",
            "1b0000000100000000", "1b0020000000000000"};
        for (int i = 0; i < edges.length; i++) {
            x.number(3, edges[i]);
            x.issue(1, 0);
            Bench.dueOutOnTape("COSE number " + edges[i], x,
                    Bench.cose(Bench.hex("a2 01 05 04 4171"), Bench.hex("a1 04" + heads[i]), 0, SECRET));
        }
    }

    private static void longest() {
        Desk x = new Desk();
        byte[] secret = new byte[64];
        Bench.addKey(x, 1, "\"".repeat(8), secret);
        String quotes = "\"".repeat(40);
        for (int claim = 0; claim < 3; claim++) {
            setText(x, claim, quotes);
            x.number(claim + 3, MOST);
        }
        String escaped = "\\\"".repeat(40);
        byte[] want = Bench.jws("{\"alg\":\"HS512\",\"kid\":\"" + "\\\"".repeat(8) + "\"}",
                "{\"iss\":\"" + escaped + "\",\"sub\":\"" + escaped + "\",\"aud\":\"" + escaped + "\",\"exp\":" + MOST
                + ",\"nbf\":" + MOST + ",\"iat\":" + MOST + "}", 1, secret);
        Bench.due("the longest JWS", x.issue(0, 0), want.length);
        Bench.due("its length", want.length, 592);
        Bench.dueOutOnTape("the longest JWS", x, want);
        byte[] payload = Bench.join(Bench.hex("a6"), Bench.hex("01"), Bench.text(quotes), Bench.hex("02"), Bench.text(quotes),
                Bench.hex("03"), Bench.text(quotes), Bench.hex("04"), Bench.head(0, MOST), Bench.hex("05"),
                Bench.head(0, MOST), Bench.hex("06"), Bench.head(0, MOST));
        byte[] header = Bench.join(Bench.hex("a2 01 07 04"), Bench.row(Bench.ascii("\"".repeat(8))));
        byte[] cose = Bench.cose(header, payload, 1, secret);
        Bench.due("the longest COSE", x.issue(1, 0), cose.length);
        Bench.dueOut("the longest COSE", x, cose);
    }

    private static void octets() {
        Desk x = desk();
        x.issue(1, 0);
        Bench.due("octet(0)", x.octet(0), 0xd1);
        Bench.due("octet(1)", x.octet(1), 0x84);
        Bench.due("octet(-1)", x.octet(-1), -1);
        Bench.due("octet(45) is there", x.octet(45) >= 0, true);
        Bench.due("octet(46)", x.octet(46), -1);
        Bench.due("octet(most)", x.octet(Integer.MAX_VALUE), -1);
        Bench.due("octet(least)", x.octet(Integer.MIN_VALUE), -1);
    }

    private static void back() {
        Desk x = desk();
        int size = x.issue(1, 0);
        int most = Integer.MAX_VALUE;
        int[][] calls = {{0, size + 1}, {1, size}, {size, 1}, {-1, 1}, {0, -1}, {most, 1}, {1, most}, {most, most},
            {size + 1, 0}, {-1, 0}, {Integer.MIN_VALUE, most}, {size + 1, -1}};
        for (int[] call : calls) {
            Bench.due("back(" + call[0] + ", " + call[1] + ")", x.back(call[0], call[1]), -1);
            Bench.due("none came", x.count(6), 0);
        }
        Bench.due("back(size, 0)", x.back(size, 0), 0);
        Bench.put(x, "ab");
        Bench.due("back(3, 4)", x.back(3, 4), 6);
        x.end(0);
        for (int i = 1; i <= 32; i++) {
            Bench.due("back(0, size) " + i, x.back(0, size), i * size);
        }
        Bench.due("back up to 1501", x.back(0, 29), -1);
        Bench.due("none came", x.count(6), 32 * size);
        Bench.due("back up to 1500", x.back(0, 28), 1500);
        Bench.due("back above 1500", x.back(0, 1), -1);
        Bench.due("back of none", x.back(0, 0), 1500);
        x.end(0);
        byte[] out = Bench.out(x);
        x.back(5, 20);
        int[] sum = new int[32];
        for (int i = 0; i < 32; i++) {
            sum[i] = x.hash(0, i);
        }
        Desk y = new Desk();
        Bench.put(y, Arrays.copyOfRange(out, 5, 25));
        for (int i = 0; i < 32; i++) {
            Bench.due("back's bytes", sum[i], y.hash(0, i));
        }
    }
}
