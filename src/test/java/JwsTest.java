/** Promise 14 of JWS: its form (Terms II), HEADER, MAC, and CLAIMS as told (reasons 1 to 6). */
public final class JwsTest {
    private static final byte[] SECRET = Bench.ascii("secret");
    private static final String HEADER = "{\"alg\":\"HS256\"}";

    public static void main(String[] args) {
        parts();
        base64();
        jsonThatHolds();
        jsonThatDoesNot();
        eachByte();
        depth();
        names();
        headers();
        macs();
        claims();
        audiences();
        longest();
        oneDeskForMany();
        Bench.close();
    }

    private static Desk desk() {
        Desk x = new Desk();
        Bench.addKey(x, 0, "q", SECRET);
        return x;
    }

    private static void due(String what, Desk x, byte[] token, int want) {
        int accepted = x.count(2);
        int refused = x.count(3);
        Bench.due(what, Bench.verify(x, 0, token), want);
        Bench.due(what + ": the TAPE is empty", x.count(6), 0);
        Bench.due(what + ": ACCEPTED", x.count(2) - accepted, want == 0 ? 1 : 0);
        Bench.due(what + ": refused", x.count(3) - refused, want == 0 ? 0 : 1);
    }

    private static void duePayload(String payload, int want) {
        due("payload " + payload, desk(), Bench.jws(HEADER, payload, 0, SECRET), want);
    }

    private static void dueHeader(String header, int want) {
        due("header " + header, desk(), Bench.jws(header, "{}", 0, SECRET), want);
    }

    private static void parts() {
        Desk x = desk();
        String[] bad = {"", ".", "..", "...", "a", "e30", "e30.e30", "e30.", ".e30.", "e30..", "e30.e30.e30.", ".e30.e30",
            "e30.e30.AA.AA", "e30..e30.AA"};
        for (String token : bad) {
            due("token " + token, x, Bench.ascii(token), 1);
        }
        due("an empty MAC", x, Bench.ascii(Bench.base64(Bench.ascii(HEADER)) + ".e30."), 5);
        due("an empty HEADER object", x, Bench.ascii("e30.e30."), 2);
        byte[] token = Bench.jws(HEADER, "{}", 0, SECRET);
        due("a token", x, token, 0);
        due("a blank ahead", x, Bench.join(Bench.ascii(" "), token), 1);
        due("a blank behind", x, Bench.join(token, Bench.ascii(" ")), 1);
        due("a . ahead", x, Bench.join(Bench.ascii("."), token), 1);
        due("a . behind", x, Bench.join(token, Bench.ascii(".")), 1);
        due("a zero behind", x, Bench.join(token, new byte[1]), 1);
        Bench.put(x, token);
        Bench.due("verify(2)", x.verify(2), -1);
        Bench.due("verify(-1)", x.verify(-1), -1);
        Bench.due("nothing happens", x.count(6), token.length);
        Bench.due("it still stands", x.verify(0), 0);
    }

    private static void base64() {
        String header = Bench.base64(Bench.ascii(HEADER));
        Desk x = desk();
        // "{} " is e30g, "{}" is e30; e31 and e32 have bits to spare that are not 0.
        String[] payloads = {"e30", "e30g", "e30gIA", "e30gICA"};
        for (String payload : payloads) {
            due("payload " + payload, x, Bench.ascii(header + "." + payload + ".AA"), 5);
        }
        String[] bad = {"e31", "e32", "e33", "e30=", "e30gI", "e30gIA==", "e30gIB", "e30gID", "e30gIQ", "e3+0", "e3/0", "e 30", "e30\n",
            "=", "e", "e30gICA=", "\u0080e30", "e30\u00ff"};
        for (String payload : bad) {
            due("payload " + payload, x, Bench.ascii(header + "." + payload + ".AA"), 1);
        }
        String[] macs = {"A", "AB", "AP", "AAB", "AAC", "AAAAA", "AA=", "AA==", "*", "A+", "A/", "Aa\u0000"};
        for (String mac : macs) {
            due("MAC " + mac, x, Bench.ascii(header + ".e30." + mac), 1);
        }
        String[] formed = {"AA", "AQ", "AAA", "AAE", "AAAA", "-_-_", "Zz09"};
        for (String mac : formed) {
            due("MAC " + mac, x, Bench.ascii(header + ".e30." + mac), 5);
        }
        for (int b = 0; b < 256; b++) {
            boolean letter = b >= 'A' && b <= 'Z' || b >= 'a' && b <= 'z' || b >= '0' && b <= '9' || b == '-' || b == '_';
            due("MAC letter " + b, desk(), Bench.ascii(header + ".e30.AAA" + (char) b), letter ? 5 : 1);
        }
    }

    private static void jsonThatHolds() {
        String[] good = {
            "{}", " \t\r\n{ \t\r\n} \t\r\n", "{\"a\":1}", "{ \"a\" : 1 , \"b\" : [ ] , \"c\" : { } }", "{\"\":\"\"}",
            "{\"a\":[1,2,[3],{\"a\":4}]}", "{\"a\":[ 1 , 2 ]}", "{\"a\":true,\"b\":false,\"c\":null}",
            "{\"a\":0,\"b\":-0,\"c\":10,\"d\":-10}", "{\"a\":0.0,\"b\":-0.5,\"c\":1.25}", "{\"a\":1e5,\"b\":1E5,\"c\":1e+5,\"d\":1E-05}",
            "{\"a\":0e0,\"b\":0.0e00,\"c\":1.5E+10}", "{\"a\":99999999999999999999999999999999999999}",
            "{\"a\":-99999999999999999999999999999999999999.5e-999}", "{\"a\":\"\\\"\\\\\\/\\b\\f\\n\\r\\t\"}",
            "{\"a\":\"\\u0000\\uffff\\uFFFF\\uD800\\udC00\\uAbCd\"}", "{\"a\":\" !#[]^_~/{}:,\"}", "{\"a\":{\"a\":{\"a\":1}}}",
        };
        for (String payload : good) {
            duePayload(payload, 0);
        }
    }

    private static void jsonThatDoesNot() {
        String[] bad = {
            "", " ", "{", "}", "{}}", "{{}", "{}{}", "{} x", "[]", "1", "\"a\"", "null", "true", "{,}", "{\"a\"}", "{\"a\":}", "{\"a\":1,}",
            "{,\"a\":1}", "{\"a\":1 \"b\":2}", "{\"a\" 1}", "{\"a\"::1}", "{a:1}", "{'a':1}", "{1:1}", "{null:1}", "{\"a\":1", "{\"a\":1,",
            "{\"a\":[}", "{\"a\":[1,]}", "{\"a\":[,1]}", "{\"a\":[1 2]}", "{\"a\":[1}", "{\"a\":[1]", "{\"a\":]}", "{\"a\":[1}]", "{\"a\":{]}",
            "{\"a\":01}", "{\"a\":-01}", "{\"a\":00}", "{\"a\":+1}", "{\"a\":-}", "{\"a\":- 1}", "{\"a\":.5}", "{\"a\":1.}", "{\"a\":1.e5}",
            "{\"a\":1e}", "{\"a\":1e+}", "{\"a\":1e+-1}", "{\"a\":1e1.5}", "{\"a\":1.2.3}", "{\"a\":--1}", "{\"a\":0x1}", "{\"a\":1_0}",
            "{\"a\":NaN}", "{\"a\":Infinity}", "{\"a\":1 0}", "{\"a\":e5}",
            "{\"a\":tru}", "{\"a\":True}", "{\"a\":TRUE}", "{\"a\":truee}", "{\"a\":nul}", "{\"a\":nulll}", "{\"a\":fals}", "{\"a\":t rue}",
            "{\"a\":truefalse}", "{\"a\":true", "{\"a\":tr",
            "{\"a\":\"}", "{\"a\":\"\\\"}", "{\"a\":\"\\x\"}", "{\"a\":\"\\U0041\"}", "{\"a\":\"\\u004\"}", "{\"a\":\"\\u004g\"}",
            "{\"a\":\"\\u 041\"}", "{\"a\":\"\\u+041\"}", "{\"a\":\"\\\"", "{\"a\":\"\\", "{\"a\":\"\\u", "{\"a\":\"\\u00", "{\"a\":\"\\N\"}",
            "{\"a\":\"\\0\"}", "{\"a\":\"\\'\"}", "{\"a\":\"\\a\"}", "{\"a\":\"\\v\"}", "{\"a\":\"\\ \"}", "{\"a\":\"\n\"}", "{\"a\":\"\t\"}",
            "{\"a\":\"\u001f\"}", "{\"a\":\"\u007f\"}", "{\"a\":\"\u0080\"}", "{\"a\":\"\u00ff\"}", "{\"a\u0080\":1}", "\u00ef\u00bb\u00bf{}",
            "\u000b{}", "\f{}", "{\u00a0}", "{}\u0000", "{\"a\":1}/", "// \n{}", "{\"a\":/**/1}", "{\"a\":\"b\"\"c\"}", "{\"a\":\"b\"1}",
        };
        for (String payload : bad) {
            duePayload(payload, 1);
            dueHeader(payload, 1);
        }
    }

    private static void eachByte() {
        for (int b = 0; b < 256; b++) {
            boolean blank = b == 9 || b == 10 || b == 13 || b == 32;
            duePayload((char) b + "{}", blank ? 0 : 1);
            duePayload("{}" + (char) b, blank ? 0 : 1);
            duePayload("{\"a\"" + (char) b + ":[1]}", blank ? 0 : 1);
            boolean plain = b >= 32 && b <= 126 && b != '"' && b != '\\';
            duePayload("{\"a\":\"" + (char) b + "\"}", plain ? 0 : 1);
            duePayload("{\"" + (char) b + "\":1}", plain ? 0 : 1);
            duePayload("{\"a\":\"\\" + (char) b + "\"}", "\"\\/bfnrt".indexOf(b) >= 0 && b != '"' ? 0 : b == '"' ? 0 : 1);
            boolean hex = b >= '0' && b <= '9' || b >= 'a' && b <= 'f' || b >= 'A' && b <= 'F';
            for (int at = 0; at < 4; at++) {
                StringBuilder four = new StringBuilder("1aF0");
                four.setCharAt(at, (char) b);
                duePayload("{\"a\":\"\\u" + four + "\"}", hex ? 0 : 1);
            }
        }
    }

    private static void depth() {
        duePayload("{\"a\":" + "[".repeat(7) + "]".repeat(7) + "}", 0);
        duePayload("{\"a\":" + "[".repeat(8) + "]".repeat(8) + "}", 1);
        duePayload("{\"a\":" + "{\"a\":".repeat(6) + "{}" + "}".repeat(6) + "}", 0);
        duePayload("{\"a\":" + "{\"a\":".repeat(7) + "{}" + "}".repeat(7) + "}", 1);
        duePayload("{\"a\":" + "[{\"a\":".repeat(3) + "[1]" + "}]".repeat(3) + "}", 0);
        duePayload("{\"a\":" + "[{\"a\":".repeat(3) + "[{}]" + "}]".repeat(3) + "}", 1);
        duePayload("{\"a\":" + "[".repeat(500), 1);
        duePayload("{\"a\":[" + "[],".repeat(100) + "[[[[[[]]]]]],1]}", 0);
        String deep = "[".repeat(7) + "]".repeat(7);
        dueHeader("{\"alg\":\"HS256\",\"x\":" + deep + "}", 0);
        dueHeader("{\"alg\":\"HS256\",\"x\":[" + deep + "]}", 1);
    }

    private static void names() {
        duePayload("{\"a\":1,\"a\":1}", 1);
        duePayload("{\"a\":1,\"b\":2,\"c\":3,\"a\":4}", 1);
        duePayload("{\"a\":1,\"A\":1}", 0);
        duePayload("{\"a\":1,\"\\u0061\":1}", 1);
        duePayload("{\"/\":1,\"\\/\":1}", 1);
        duePayload("{\"\\n\":1,\"\\u000A\":1}", 1);
        duePayload("{\"\\u0161\":1,\"a\":1}", 0);
        duePayload("{\"\":1,\"\":1}", 1);
        duePayload("{\"a\":1,\"aa\":1,\"\":1,\"ab\":1,\"b\":1}", 0);
        duePayload("{\"x\":{\"a\":1,\"a\":1}}", 1);
        duePayload("{\"x\":[{\"a\":1},{\"a\":1}]}", 0);
        duePayload("{\"x\":[{\"a\":1},{\"b\":1,\"b\":1}]}", 1);
        duePayload("{\"x\":{\"x\":{\"x\":1}}}", 0);
        duePayload("{\"x\":{\"a\":1,\"b\":2},\"a\":1,\"b\":2,\"x\":3}", 1);
        duePayload("{\"x\":{\"a\":1,\"b\":2},\"a\":{\"x\":1},\"b\":{}}", 0);
        duePayload("{\"iss\":\"a\",\"iss\":\"a\"}", 1);
        dueHeader("{\"alg\":\"HS256\",\"alg\":\"HS256\"}", 1);
        dueHeader("{\"alg\":\"HS256\",\"\\u0061lg\":\"HS256\"}", 1);
        StringBuilder many = new StringBuilder("{\"\":0");
        for (int i = 0; i < 130; i++) {
            many.append(",\"").append(i).append("\":0");
        }
        duePayload(many + "}", 0);
        duePayload(many + ",\"129\":0}", 1);
        duePayload(many + ",\"\":0}", 1);
    }

    private static void headers() {
        String[] second = {
            "{}", "{\"alg\":\"none\"}", "{\"alg\":\"HS384\"}", "{\"alg\":\"hs256\"}", "{\"alg\":\"HS256 \"}", "{\"alg\":\"HS25\"}", "{\"alg\":\"\"}",
            "{\"alg\":5}", "{\"alg\":null}", "{\"alg\":[\"HS256\"]}", "{\"alg\":{}}", "{\"ALG\":\"HS256\"}", "{\"alg\":true}",
            "{\"alg\":\"HS256\",\"crit\":[]}", "{\"alg\":\"HS256\",\"crit\":null}", "{\"crit\":{\"a\":1},\"alg\":\"HS256\"}",
            "{\"alg\":\"HS256\",\"crit\":\"\"}", "{\"alg\":\"HS256\",\"crit\":0}", "{\"alg\":\"HS256\",\"cr\\u0069t\":0}",
            "{\"alg\":\"none\",\"kid\":1}", "{\"alg\":\"HS256\",\"crit\":0,\"kid\":\"x\"}", "{\"x\":{\"alg\":\"HS256\"}}",
        };
        for (String header : second) {
            dueHeader(header, 2);
        }
        String[] third = {
            "{\"alg\":\"HS256\",\"kid\":\"\"}", "{\"alg\":\"HS256\",\"kid\":\"Q\"}", "{\"alg\":\"HS256\",\"kid\":\"qq\"}", "{\"alg\":\"HS256\",\"kid\":1}",
            "{\"alg\":\"HS256\",\"kid\":null}", "{\"alg\":\"HS256\",\"kid\":[\"q\"]}", "{\"kid\":{},\"alg\":\"HS256\"}",
            "{\"alg\":\"HS512\",\"kid\":\"x\"}", "{\"alg\":\"HS256\",\"kid\":\"\\u0171\"}", "{\"alg\":\"HS256\",\"kid\":\"\\u7100\"}",
        };
        for (String header : third) {
            dueHeader(header, 3);
        }
        dueHeader("{\"alg\":\"HS512\"}", 4);
        dueHeader("{\"alg\":\"HS512\",\"kid\":\"q\"}", 4);
        String[] good = {
            "{\"alg\":\"HS256\",\"kid\":\"q\"}", "{\"kid\":\"\\u0071\",\"a\\u006Cg\":\"\\u0048S256\"}", "{\"typ\":\"JWT\",\"alg\":\"HS256\"}",
            "{\"alg\":\"HS256\",\"x\":{\"crit\":1,\"kid\":1,\"alg\":1}}", "{\"alg\":\"HS256\",\"Crit\":1,\"KID\":1,\"Alg\":2}",
            "{\"alg\":\"HS256\",\"exp\":-1,\"aud\":[1]}", "\n{ \"alg\" :\t\"HS256\"\r} ",
        };
        for (String header : good) {
            dueHeader(header, 0);
        }
        Desk none = new Desk();
        due("no KEY", none, Bench.jws(HEADER, "{}", 0, SECRET), 3);
        Desk two = desk();
        Bench.addKey(two, 1, "r\"", Bench.ascii("other"));
        due("two KEYS, no kid", two, Bench.jws(HEADER, "{}", 0, SECRET), 3);
        due("two KEYS, first kid", two, Bench.jws("{\"alg\":\"HS256\",\"kid\":\"q\"}", "{}", 0, SECRET), 0);
        Bench.due("the first's number", two.count(0), 0);
        due("two KEYS, second kid", two, Bench.jws("{\"alg\":\"HS512\",\"kid\":\"r\\\"\"}", "{}", 1, Bench.ascii("other")), 0);
        Bench.due("the second's number", two.count(0), 1);
        due("the second's other alg", two, Bench.jws("{\"alg\":\"HS256\",\"kid\":\"r\\\"\"}", "{}", 0, Bench.ascii("other")), 4);
        due("the second by the first's secret", two, Bench.jws("{\"alg\":\"HS512\",\"kid\":\"r\\\"\"}", "{}", 1, SECRET), 5);
        due("a broken PAYLOAD ahead of all", two, Bench.jws("{\"alg\":\"none\"}", "{", 0, SECRET), 1);
    }

    private static void macs() {
        byte[] token = Bench.jws(HEADER, "{\"a\":1}", 0, SECRET);
        String text = new String(token, java.nio.charset.StandardCharsets.ISO_8859_1);
        int dot = text.lastIndexOf('.');
        byte[] mac = Bench.mac(0, SECRET, Bench.ascii(text.substring(0, dot)));
        for (int i = 0; i < mac.length; i++) {
            byte[] other = mac.clone();
            other[i] ^= 1 << (i % 8);
            due("MAC byte " + i, desk(), Bench.ascii(text.substring(0, dot + 1) + Bench.base64(other)), 5);
        }
        for (int size = 0; size < 70; size++) {
            byte[] other = java.util.Arrays.copyOf(mac, size);
            due("MAC of " + size, desk(), Bench.ascii(text.substring(0, dot + 1) + Bench.base64(other)), size == 32 ? 0 : 5);
        }
        due("another HEADER text", desk(), Bench.ascii(Bench.base64(Bench.ascii(HEADER + " ")) + text.substring(text.indexOf('.'))), 5);
        due("the MAC ahead of the claims", desk(), Bench.jws(HEADER, "{\"exp\":null}", 0, Bench.ascii("else")), 5);
    }

    private static void claims() {
        for (String name : new String[] {"iss", "sub"}) {
            for (String value : new String[] {"null", "1", "[]", "[\"a\"]", "{}", "true", "\"" + "a".repeat(201) + "\""}) {
                duePayload("{\"" + name + "\":" + value + "}", 6);
            }
            for (String value : new String[] {"\"\"", "\"a\"", "\"" + "a".repeat(200) + "\"", "\"" + "\\u0000".repeat(100) + "\""}) {
                duePayload("{\"" + name + "\":" + value + "}", 0);
            }
        }
        duePayload("{\"iss\":\"" + "a".repeat(200) + "\",\"sub\":\"" + "b".repeat(200) + "\",\"aud\":\"" + "c".repeat(200) + "\"}", 0);
        for (String name : new String[] {"exp", "nbf", "iat"}) {
            String[] bad = {"null", "\"1\"", "[1]", "[]", "{}", "false", "-1", "1.0", "1e1", "1E1", "0.5", "-0.0", "0e0", "9007199254740993", "90071992547409920",
                "90071992547409929", "-9007199254740992", "-9007199254740993", "99999999999999999999", "18446744073709551616", "18446744073709551617",
                "92233720368547758080"};
            for (String value : bad) {
                duePayload("{\"" + name + "\":" + value + "}", 6);
            }
        }
        duePayload("{\"exp\":9007199254740992}", 0);
        duePayload("{\"exp\":1}", 0);
        duePayload("{\"exp\":0}", 7);
        duePayload("{\"exp\":-0}", 7);
        duePayload("{\"nbf\":0,\"iat\":-0}", 0);
        duePayload("{\"nbf\":9007199254740992}", 8);
        duePayload("{\"iat\":9007199254740992}", 8);
        duePayload("{\"e\\u0078p\":\"x\"}", 6);
        duePayload("{\"EXP\":\"x\",\"Iss\":1,\"exp \":null,\"jti\":7}", 0);
        duePayload("{\"x\":{\"exp\":null,\"iss\":1},\"y\":[{\"aud\":1}]}", 0);
        duePayload("{\"iss\":{\"iss\":\"a\"}}", 6);
        duePayload("{\"exp\":0,\"sub\":1}", 6);
    }

    private static String list(int n, String text) {
        return "[" + (text + ",").repeat(n - 1) + text + "]";
    }

    private static void audiences() {
        String[] bad = {"null", "1", "{}", "true", "[1]", "[\"a\",1]", "[null,\"a\"]", "[[\"a\"]]", "[\"a\",[]]", "[{}]", "[\"a\",true]", "[-1.5]",
            "\"" + "a".repeat(201) + "\"", list(2, "\"" + "a".repeat(101) + "\""), "[\"" + "a".repeat(200) + "\",\"b\"]",
            list(21, "\"a\""), list(21, "\"\""), list(100, "\"\""), list(21, "\"" + "a".repeat(10) + "\"")};
        for (String value : bad) {
            duePayload("{\"aud\":" + value + "}", 6);
        }
        String[] good = {"[]", "[ ]", "\"\"", "[\"\"]", "\"" + "a".repeat(200) + "\"", "[\"" + "a".repeat(200) + "\"]",
            list(2, "\"" + "a".repeat(100) + "\""), list(20, "\"" + "a".repeat(10) + "\""), list(20, "\"\""),
            "[\"" + "a".repeat(200) + "\",\"\"]", "[\"a\",\"a\"]"};
        for (String value : good) {
            duePayload("{\"aud\":" + value + "}", 0);
        }
        duePayload("{\"x\":" + list(30, "\"a\"") + ",\"aud\":[\"a\"]}", 0);
        duePayload("{\"x\":{\"aud\":[1]},\"aud\":[\"a\"]}", 0);
    }

    /** What earlier tokens held takes no room from later ones. */
    private static void oneDeskForMany() {
        Desk x = desk();
        StringBuilder many = new StringBuilder("{\"\":0");
        for (int i = 0; i < 100; i++) {
            many.append(",\"").append(i).append("\":0");
        }
        String text = "abcdefghij".repeat(20);
        for (int i = 0; i < 3; i++) {
            due("broken", x, Bench.jws(HEADER, many + ",", 0, SECRET), 1);
            due("broken in an inner one", x, Bench.jws(HEADER, "{\"x\":" + many + ",", 0, SECRET), 1);
        }
        due("whole", x, Bench.jws(HEADER, many + "}", 0, SECRET), 0);
        due("texts", x, Bench.jws(HEADER, "{\"iss\":\"" + text + "\",\"sub\":\"" + text + "\"}", 0, SECRET), 0);
        Bench.due("the last sign", x.sign(1, 0, 199), 'j');
    }

    private static void longest() {
        String header = Bench.base64(Bench.ascii(HEADER));
        // 1500 bytes in all: what is not the HEADER, the dots and the MAC is the PAYLOAD.
        int room = (1500 - header.length() - 2 - 43) / 4 * 3;
        String zeros = "{\"a\":[" + "0,".repeat((room - 9) / 2) + "0]}";
        byte[] token = Bench.jws(HEADER, zeros + " ".repeat(room - zeros.length()), 0, SECRET);
        Bench.due("its length", token.length <= 1500 && token.length > 1495, true);
        due("the longest", desk(), token, 0);
        StringBuilder members = new StringBuilder("{\"\":0");
        for (int i = 33; members.length() < room - 9; i++) {
            String name = i < 127 ? "" + (char) i : "" + (char) (33 + i % 90) + (char) (33 + i / 90);
            if (i != '"' && i != '\\' && name.indexOf('"') < 0 && name.indexOf('\\') < 0) {
                members.append(",\"").append(name).append("\":0");
            }
        }
        due("the most members", desk(), Bench.jws(HEADER, members + "}", 0, SECRET), 0);
        due("1500 bytes of the same letter", desk(), Bench.ascii("A".repeat(1500)), 1);
        due("1500 dots", desk(), Bench.ascii(".".repeat(1500)), 1);
    }
}
