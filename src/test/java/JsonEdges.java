/** The boundary cases of the terms' II: JSON, BASE64URL, and what a JWS is made of. */
final class JsonEdges {
    private static final String HEADER = Bench.base64(Bench.ascii(Judge.JSON_HEADER));

    private JsonEdges() {
    }

    static void all() {
        Edges.edge("II", "JSON (RFC 8259) as bytes; the text is one object, blanks (9, 10, 13, 32) around", JsonEdges::oneObject);
        Edges.edge("II", "STRINGS: bytes 32 .. 126, but \" and \\", JsonEdges::stringBytes);
        Edges.edge("II", "and \\ with one of \" \\ / b f n r t", JsonEdges::escapes);
        Edges.edge("II", "or u and four hexadecimal digits (each of either sort of letters)", JsonEdges::fourDigits);
        Edges.edge("II", "rows of 16-bit signs", JsonEdges::signs);
        Edges.edge("II", "(Bytes of 128 and more, and others, can't stand anywhere.)", JsonEdges::strangeBytes);
        Edges.edge("II", "NUMBERS as there", JsonEdges::numbers);
        Edges.edge("II", "an INTEGER is one without . and e, E", JsonEdges::integers);
        Edges.edge("II", "from -2^53 to 2^53", JsonEdges::integerEdges);
        Edges.edge("II", "Objects and arrays within one another: 8 at most", JsonEdges::depth);
        Edges.edge("II", "An object's names are unlike", JsonEdges::names);
        Edges.edge("II", "BASE64URL: A .. Z, a .. z, 0 .. 9, -, _: six bits each", JsonEdges::letters);
        Edges.edge("II", "no filling signs", JsonEdges::noFilling);
        Edges.edge("II", "of the last sign's bits those that make no whole byte are 0", JsonEdges::spareBits);
        Edges.edge("II", "and are fewer than six", JsonEdges::fewerThanSix);
        Edges.edge("II", "JWS: three parts with . between", JsonEdges::threeParts);
        Edges.edge("II", "BASE64URL of HEADER (JSON), of PAYLOAD (JSON), of the MAC of all ahead of the second . (as ASCII bytes)", JsonEdges::macOfAhead);
        Edges.edge("II", "HEADER's members: alg (STRING HS256, HS512: ALG 0, 1)", JsonEdges::alg);
        Edges.edge("II", "kid (STRING)", JsonEdges::kid);
        Edges.edge("II", "crit (any)", JsonEdges::crit);
        Edges.edge("II", "PAYLOAD's: iss, sub (STRINGS)", JsonEdges::issAndSub);
        Edges.edge("II", "aud (a STRING, or an array of STRINGS)", JsonEdges::aud);
        Edges.edge("II", "exp, nbf, iat (INTEGERS not below 0)", JsonEdges::times);
        Edges.edge("II", "Other members mean nothing", JsonEdges::others);
    }

    /** The text is that of a PAYLOAD, and of a HEADER that has what it needs if good is told of it. */
    private static void dueText(String text, boolean good) {
        Judge.json(text, good ? 0 : 1);
        if (!good) {
            Judge.jsonHeader(text, 1);
        }
    }

    /** The value stands in a PAYLOAD and in a HEADER, as a member that means nothing. */
    private static void dueValue(String value, boolean good) {
        Judge.json("{\"x\":" + value + "}", good ? 0 : 1);
        Judge.jsonHeader("{\"alg\":\"HS256\",\"kid\":\"q\",\"x\":" + value + "}", good ? 0 : 1);
    }

    private static void oneObject() {
        for (int b = 0; b < 256; b++) {
            boolean blank = b == 9 || b == 10 || b == 13 || b == 32;
            dueText((char) b + "{}", blank);
            dueText("{}" + (char) b, blank);
            Judge.jsonHeader(Judge.JSON_HEADER + (char) b, blank ? 0 : 1);
            Judge.jsonHeader((char) b + Judge.JSON_HEADER, blank ? 0 : 1);
        }
        dueText(" \t\r\n".repeat(50) + "{ \t\r\n}" + "\n\r\t ".repeat(50), true);
        dueText(" {\n\"a\"\r:\t1 ,\n\"b\" : [ 1 , 2 ] , \"c\" : { } } ", true);
        for (String text : new String[] {"", " ", "{", "}", "[]", "[{}]", "1", "\"a\"", "null", "true", "{}{}", "{},{}", "{} {}", "{}}", "{{}}", "{}]",
                "{,}", "{\"a\":1,}", "{,\"a\":1}", "{\"a\"}", "{\"a\":}", "{:1}", "{\"a\" 1}", "{\"a\":1 \"b\":2}", "{\"a\":1,,\"b\":2}", "{a:1}",
                "{1:1}", "{\"a\":1", "{\"a\":1]", "{\"a\":[1}", "{\"a\":[1,]}", "{\"a\":[,1]}", "{\"a\":[1 2]}", "{\"a\":[1]", "{\"a\":{}",
                "{\"a\":tru}", "{\"a\":truE}", "{\"a\":true1}", "{\"a\":nulll}", "{\"a\":fals}", "{\"a\":True}", "{\"a\":[-}", "{\"a\":[1.}", "{\"a\":[1e}", "{\"a\":[1x}", "{\"a\":[1 2}",
                "{\"a\":[\"b\u0001}", "{\"a\":\"b\u0001}", "{\"a\":\"\\x}", "{\"a\":{\"b\"}", "{\"a\":{\"b\":}", "{\"a\":{\"b\":1x}"}) {
            dueText(text, false);
        }
        for (String value : new String[] {"true", "false", "null", "{}", "[]", "[[],{}]", "0", "\"\""}) {
            dueValue(value, true);
        }
    }

    private static void stringBytes() {
        for (int b = 0; b < 256; b++) {
            boolean plain = b >= 32 && b <= 126 && b != '"' && b != '\\';
            dueValue("\"a" + (char) b + "\"", plain);
            Judge.json("{\"" + (char) b + "\":1}", plain ? 0 : 1);
            Judge.json("{\"iss\":\"" + (char) b + "\"}", plain ? 0 : 1);
        }
        dueValue("\"\"", true);
        dueValue("\"a", false);
        dueValue("a\"", false);
        dueValue("\"a\"\"b\"", false);
    }

    private static void escapes() {
        String good = "\"\\/bfnrt";
        String signs = "\"\\/\b\f\n\r\t";
        for (int b = 0; b < 256; b++) {
            boolean known = good.indexOf(b) >= 0;
            dueValue("\"\\" + (char) b + "\"", known);
            if (known) {
                Desk x = new Desk();
                State.ready(x);
                Bench.verify(x, 0, Bench.jws(Judge.JSON_HEADER, "{\"iss\":\"a\\" + (char) b + "c\"}", 0, Judge.SECRET));
                Bench.due("signs of \\" + (char) b, x.has(0), 3);
                Bench.due("the sign of \\" + (char) b, x.sign(0, 0, 1), signs.charAt(good.indexOf(b)));
            }
        }
        dueValue("\"\\\"", false);
        dueValue("\"\\\\\"", true);
        dueValue("\"\\\\\\\"", false);
        dueValue("\"\\", false);
    }

    private static void fourDigits() {
        for (int b = 0; b < 256; b++) {
            boolean digit = b >= '0' && b <= '9' || b >= 'a' && b <= 'f' || b >= 'A' && b <= 'F';
            for (int at = 0; at < 4; at++) {
                StringBuilder four = new StringBuilder("0aF9");
                four.setCharAt(at, (char) b);
                Judge.json("{\"x\":\"\\u" + four + "\"}", digit ? 0 : 1);
            }
        }
        for (String value : new String[] {"\"\\u\"", "\"\\u0\"", "\"\\u00\"", "\"\\u004\"", "\"\\u004", "\"\\U0041\"", "\"u0041\\\""}) {
            dueValue(value, false);
        }
        dueValue("\"\\u00411\"", true);
        Desk x = new Desk();
        State.ready(x);
        Bench.verify(x, 0, Bench.jws(Judge.JSON_HEADER, "{\"iss\":\"\\u00411\\uAbCd\\uaBcD\"}", 0, Judge.SECRET));
        int[] want = {0x41, '1', 0xabcd, 0xabcd};
        Bench.due("signs", x.has(0), 4);
        for (int i = 0; i < 4; i++) {
            Bench.due("sign " + i, x.sign(0, 0, i), want[i]);
        }
    }

    private static void signs() {
        int[] edges = {0, 1, 31, 32, 126, 127, 128, 255, 256, 0x7fff, 0x8000, 0xd7ff, 0xd800, 0xdbff, 0xdc00, 0xdfff, 0xe000, 0xfffe, 0xffff};
        StringBuilder text = new StringBuilder();
        for (int sign : edges) {
            text.append(String.format("\\u%04x", sign));
        }
        for (String name : new String[] {"iss", "sub", "aud"}) {
            Desk x = new Desk();
            State.ready(x);
            byte[] token = Bench.jws(Judge.JSON_HEADER, "{\"" + name + "\":\"" + text + "\"}", 0, Judge.SECRET);
            Bench.due("signs of all sorts", Bench.verify(x, 0, token), 0);
            int claim = name.equals("iss") ? 0 : name.equals("sub") ? 1 : 2;
            Bench.due("how many", x.has(claim), edges.length);
            for (int i = 0; i < edges.length; i++) {
                Bench.due("sign " + edges[i], x.sign(claim, 0, i), edges[i]);
            }
        }
    }

    private static void strangeBytes() {
        String text = "{\"a\":[1,true],\"b\":\"c\"}";
        int[] strange = {0, 8, 11, 12, 14, 31, 127, 128, 160, 194, 195, 239, 254, 255};
        for (int b : strange) {
            for (int at = 0; at <= text.length(); at++) {
                Judge.json(text.substring(0, at) + (char) b + text.substring(at), 1);
            }
            Judge.jsonHeader("{\"alg\":\"HS256\",\"kid\":\"q\",\"x\":\"" + (char) b + "\"}", 1);
        }
        for (int b = 0; b < 256; b++) {
            if (b > 126 || b < 32 && b != 9 && b != 10 && b != 13) {
                Judge.json("{\"a\":\"" + (char) b + "\"}", 1);
                Judge.json("{\"a\":" + (char) b + "1}", 1);
            }
        }
        Judge.json("\u00ef\u00bb\u00bf{}", 1);
        Judge.json("{\"a\":\"\u00c3\u00a4\"}", 1);
    }

    private static void numbers() {
        for (String value : new String[] {"0", "-0", "1", "9", "10", "-10", "123456789", "0.0", "-0.5", "1.25", "0.000", "1e5", "1E5", "1e+5", "1e-5", "1E+05",
                "0e0", "-0e-0", "0.0e00", "1.5E+10", "9".repeat(300), "-" + "9".repeat(300), "0." + "9".repeat(300), "1e" + "9".repeat(300)}) {
            dueValue(value, true);
            dueValue("[" + value + "," + value + "]", true);
        }
        for (String value : new String[] {"", "-", "+1", "--1", "- 1", "00", "01", "-00", "-01", "1.", ".5", "-.5", "1.e5", "1..5", "1.2.3", "1e", "1e+", "1e-",
                "1E", "1e5.5", "1e5e5", "1e+-5", "e5", "0x1", "1_0", "1f", "1L", "NaN", "Infinity", "-Infinity", "1 0", "0 .5", "1e 5", "1,"}) {
            dueValue(value, false);
        }
    }

    private static void integers() {
        for (String name : new String[] {"exp", "nbf", "iat"}) {
            for (String value : new String[] {"1.0", "0.0", "1e0", "1E0", "1e+0", "1.0e0", "10e-1", "0e0", "0E1", "9007199254740992.0", "1e15"}) {
                Judge.json("{\"" + name + "\":" + value + "}", 6);
                Judge.json("{\"x" + name + "\":" + value + "}", 0);
            }
            Judge.json("{\"" + name + "\":0}", name.equals("exp") ? 7 : 0);
            Judge.json("{\"" + name + "\":1}", name.equals("exp") ? 0 : 8);
        }
    }

    private static void integerEdges() {
        for (String name : new String[] {"exp", "nbf", "iat"}) {
            int within = name.equals("exp") ? 0 : 8;
            Judge.json("{\"" + name + "\":9007199254740991}", within);
            Judge.json("{\"" + name + "\":9007199254740992}", within);
            for (String value : new String[] {"9007199254740993", "9007199254740994", "9007199254741000", "90071992547409920", "18014398509481984",
                    "9223372036854775807", "9223372036854775808", "18446744073709551616", "18446744073709551617", "36893488147419103233",
                    "9".repeat(40), "1" + "0".repeat(64), "-1", "-9007199254740992", "-9007199254740993", "-9223372036854775808",
                    "-18446744073709551615"}) {
                Judge.json("{\"" + name + "\":" + value + "}", 6);
                Judge.json("{\"x" + name + "\":" + value + "}", 0);
            }
        }
        Desk x = new Desk();
        State.ready(x);
        Bench.verify(x, 0, Bench.jws(Judge.JSON_HEADER, "{\"exp\":9007199254740992}", 0, Judge.SECRET));
        Bench.due("2^53", x.claim(3), 1L << 53);
    }

    private static void depth() {
        // The text's own object is the first of the 8.
        for (int more = 6; more <= 9; more++) {
            boolean good = more <= 7;
            dueValue("[".repeat(more) + "]".repeat(more), good);
            dueValue("[".repeat(more) + "1" + "]".repeat(more), good);
            dueValue("{\"a\":".repeat(more - 1) + "{}" + "}".repeat(more - 1), good);
            dueValue("{\"a\":".repeat(more) + "1" + "}".repeat(more), good);
            dueValue("[{\"a\":".repeat(more / 2) + (more % 2 == 0 ? "1" : "[1]") + "}]".repeat(more / 2), good);
            dueValue("[[],{},[[" + "[".repeat(more - 3) + "]".repeat(more - 3) + "],1]]", good);
        }
        dueValue("[" + "[[[[[[]]]]]],".repeat(20) + "[[[[[[]]]]]]]", true);
        dueValue("[" + "[[[[[[]]]]]],".repeat(20) + "[[[[[[[]]]]]]]]", false);
        dueValue("[".repeat(400) + "]".repeat(400), false);
        dueValue("[".repeat(800), false);
        dueValue("{\"\":".repeat(150), false);
        Judge.json("{\"aud\":" + "[".repeat(7) + "]".repeat(7) + "}", 6);
        Judge.json("{\"aud\":" + "[".repeat(8) + "]".repeat(8) + "}", 1);
        Judge.jsonHeader("{\"alg\":\"HS256\",\"crit\":" + "[".repeat(7) + "]".repeat(7) + "}", 2);
        Judge.jsonHeader("{\"alg\":\"HS256\",\"crit\":" + "[".repeat(8) + "]".repeat(8) + "}", 1);
    }

    private static void names() {
        dueText("{\"a\":1,\"a\":1}", false);
        dueText("{\"a\":1,\"b\":1,\"a\":2}", false);
        dueText("{\"\":1,\"\":1}", false);
        dueText("{\"a\":1,\"\\u0061\":1}", false);
        dueText("{\"\\/\":1,\"/\":1}", false);
        dueText("{\"\\u000a\":1,\"\\n\":1}", false);
        dueText("{\"\\uABCD\":1,\"\\uabcd\":1}", false);
        dueText("{\"" + "n".repeat(300) + "\":1,\"" + "n".repeat(300) + "\":1}", false);
        dueText("{\"iss\":\"a\",\"iss\":\"a\"}", false);
        dueText("{\"x\":{\"a\":1,\"b\":{},\"a\":1}}", false);
        dueText("{\"x\":[{\"a\":1,\"a\":1}]}", false);
        dueText("{\"x\":{\"a\":1},\"a\":1,\"x\":1}", false);
        dueText("{\"a\":{\"b\":{\"c\":1,\"d\":1}},\"a\":1}", false);
        dueText("{\"a\":1,\"A\":1,\"aa\":1,\"\":1,\" a\":1,\"b\":1}", true);
        dueText("{\"" + "n".repeat(300) + "\":1,\"" + "n".repeat(299) + "m\":1}", true);
        dueText("{\"\\u0100\":1,\"\\u0000\":1,\"\\u0001\":1}", true);
        dueText("{\"a\":{\"a\":{\"a\":1}}}", true);
        dueText("{\"x\":{\"a\":1},\"a\":{\"x\":1},\"y\":[{\"a\":1},{\"a\":1}]}", true);
        Judge.jsonHeader("{\"alg\":\"HS256\",\"kid\":\"q\",\"alg\":\"HS256\"}", 1);
        Judge.jsonHeader("{\"alg\":\"HS256\",\"kid\":\"q\",\"KID\":\"q\"}", 0);
        StringBuilder many = new StringBuilder("{\"\":0");
        for (int i = 0; i < 120; i++) {
            many.append(",\"").append(i).append("\":0");
        }
        dueText(many + "}", true);
        Judge.json(many + ",\"119\":0}", 1);
        Judge.json(many + ",\"\":0}", 1);
    }

    private static void letters() {
        for (int b = 0; b < 256; b++) {
            boolean letter = b >= 'A' && b <= 'Z' || b >= 'a' && b <= 'z' || b >= '0' && b <= '9' || b == '-' || b == '_';
            Judge.jwsText(HEADER + ".e30.AAA" + (char) b, letter ? 5 : 1);
            Judge.jwsText(HEADER + ".e30." + (char) b + "AAA", letter ? 5 : 1);
            if (!letter) {
                Judge.jwsText(HEADER + ".e30g" + (char) b + "ICA.AAAA", 1);
                Judge.jwsText(HEADER + (char) b + ".e30.AAAA", 1);
                Judge.jwsText((char) b + HEADER + ".e30.AAAA", 1);
            }
        }
        // All signs that JSON's STRINGS may have, at each of the three places in a group of four letters: - and _ come too.
        StringBuilder signs = new StringBuilder();
        for (int b = 32; b < 127; b++) {
            signs.append(b == '"' || b == '\\' ? "" : "" + (char) b);
        }
        String forth = signs.toString();
        String back = signs.reverse().toString();
        for (int shift = 0; shift < 3; shift++) {
            Judge.json("{\"x\":\"" + " ".repeat(shift) + forth + back + "\"}", 0);
            Judge.json("{\"x\":\"" + " ".repeat(shift) + ">>>???~~~\"}", 0);
        }
    }

    private static void noFilling() {
        byte[] token = Bench.jws(Judge.JSON_HEADER, "{} ", 0, Judge.SECRET);
        String whole = new String(token, java.nio.charset.StandardCharsets.ISO_8859_1);
        Judge.jwsText(whole, 0);
        Judge.jwsText(whole + "=", 1);
        Judge.jwsText(whole + "==", 1);
        for (String payload : new String[] {"e30=", "e30gIA==", "e30g=", "e30g==", "e30g====", "=e30", "="}) {
            Judge.jwsText(HEADER + "." + payload + ".AAAA", 1);
        }
        for (String mac : new String[] {"AA==", "AAA=", "AAAA=", "=", "====", "AA=", "AA=A"}) {
            Judge.jwsText(HEADER + ".e30." + mac, 1);
        }
        // A HEADER of 25 bytes and of 26, with what other sorts of base 64 would fill them with.
        Judge.jwsText(Bench.base64(Bench.ascii(Judge.JSON_HEADER)) + "==.e30.AAAA", 1);
        Judge.jwsText(Bench.base64(Bench.ascii(Judge.JSON_HEADER + " ")) + "=.e30.AAAA", 1);
    }

    private static void spareBits() {
        String letters = "ABCDEFGHIJKLMNOPQRSTUVWXYZabcdefghijklmnopqrstuvwxyz0123456789-_";
        for (int i = 0; i < 64; i++) {
            Judge.jwsText(HEADER + ".e30.A" + letters.charAt(i), i % 16 == 0 ? 5 : 1);
            Judge.jwsText(HEADER + ".e30.AA" + letters.charAt(i), i % 4 == 0 ? 5 : 1);
            Judge.jwsText(HEADER + ".e30.AAA" + letters.charAt(i), 5);
            Judge.jwsText(HEADER + ".e30.AAAAA" + letters.charAt(i), i % 16 == 0 ? 5 : 1);
        }
        for (String payload : new String[] {"e31", "e32", "e33", "e30gIB", "e30gIC", "e30gII", "e30gIP"}) {
            Judge.jwsText(HEADER + "." + payload + ".AAAA", 1);
        }
        Judge.jwsText(HEADER + ".e30gIA.AAAA", 5);
        // The true MAC with a spare bit set is no BASE64URL, though its whole bytes are the true ones.
        String whole = new String(Bench.jws(Judge.JSON_HEADER, "{}", 0, Judge.SECRET), java.nio.charset.StandardCharsets.ISO_8859_1);
        char last = whole.charAt(whole.length() - 1);
        for (int spare = 0; spare < 4; spare++) {
            char other = letters.charAt(letters.indexOf(last) + spare);
            Judge.jwsText(whole.substring(0, whole.length() - 1) + other, spare == 0 ? 0 : 1);
        }
        String header = Bench.base64(Bench.ascii(Judge.JSON_HEADER + " "));
        char end = header.charAt(header.length() - 1);
        char spoilt = letters.charAt(letters.indexOf(end) + 1);
        Judge.jwsText(header.substring(0, header.length() - 1) + end + ".e30.AAAA", 5);
        Judge.jwsText(header.substring(0, header.length() - 1) + spoilt + ".e30.AAAA", 1);
    }

    private static void fewerThanSix() {
        for (int size = 0; size <= 12; size++) {
            Judge.jwsText(HEADER + ".e30." + "A".repeat(size), size % 4 == 1 ? 1 : 5);
        }
        Judge.jwsText(HEADER + ".e30gI.AAAA", 1);
        Judge.jwsText(HEADER + ".e.AAAA", 1);
        Judge.jwsText(HEADER + ".e30gA.AAAA", 1);
        for (int blanks = 0; blanks < 4; blanks++) {
            String header = Bench.base64(Bench.ascii(Judge.JSON_HEADER + " ".repeat(blanks)));
            Judge.jwsText(header + ".e30.AAAA", 5);
            Judge.jwsText(header + "A".repeat(5 - header.length() % 4) + ".e30.AAAA", 1);
        }
        // Six bits of 0 behind 27 whole bytes: no byte is lost or added, and it is no BASE64URL all the same.
        Judge.jwsText(Bench.base64(Bench.ascii(Judge.JSON_HEADER + "  ")) + "A.e30.AAAA", 1);
    }

    private static void threeParts() {
        String whole = new String(Bench.jws(Judge.JSON_HEADER, "{}", 0, Judge.SECRET), java.nio.charset.StandardCharsets.ISO_8859_1);
        int first = whole.indexOf('.');
        int second = whole.lastIndexOf('.');
        Judge.jwsText(whole, 0);
        Judge.jwsText("", 1);
        Judge.jwsText(".", 1);
        Judge.jwsText("..", 1);
        Judge.jwsText("...", 1);
        Judge.jwsText(whole.substring(0, first), 1);
        Judge.jwsText(whole.substring(0, first + 1), 1);
        Judge.jwsText(whole.substring(0, second), 1);
        Judge.jwsText(whole.substring(0, second + 1), 5);
        Judge.jwsText(whole + ".", 1);
        Judge.jwsText(whole + ".e30", 1);
        Judge.jwsText("." + whole, 1);
        Judge.jwsText(whole.substring(0, first) + "." + whole.substring(first), 1);
        Judge.jwsText(whole.substring(0, second) + "." + whole.substring(second), 1);
        Judge.jwsText(whole.substring(0, first) + whole.substring(first + 1), 1);
        Judge.jwsText(whole.substring(0, second) + whole.substring(second + 1), 1);
        Judge.jwsText(whole.replace('.', ','), 1);
        Judge.jwsText(".e30.AAAA", 1);
        Judge.jwsText(HEADER + "..AAAA", 1);
        Judge.jwsText("A".repeat(1500), 1);
        Judge.jwsText(".".repeat(1500), 1);
    }

    private static void macOfAhead() {
        byte[] secret = Judge.SECRET;
        String ahead = HEADER + ".e30";
        byte[][] wrong = {
            Bench.mac(0, secret, Bench.ascii(ahead + ".")), Bench.mac(0, secret, Bench.ascii(HEADER)), Bench.mac(0, secret, Bench.ascii("e30")),
            Bench.mac(0, secret, Bench.ascii(HEADER + "e30")), Bench.mac(0, secret, Bench.ascii(Judge.JSON_HEADER + ".{}")), Bench.mac(0, secret, new byte[0]),
            Bench.mac(1, secret, Bench.ascii(ahead)), Bench.mac(0, Bench.ascii("Secret"), Bench.ascii(ahead)), Bench.digest(0, Bench.ascii(ahead)),
        };
        Judge.jwsText(ahead + "." + Bench.base64(Bench.mac(0, secret, Bench.ascii(ahead))), 0);
        for (byte[] mac : wrong) {
            Judge.jwsText(ahead + "." + Bench.base64(mac), 5);
        }
        // The same HEADER and PAYLOAD in other words have another MAC.
        String blank = HEADER + "." + Bench.base64(Bench.ascii("{ }"));
        Judge.jwsText(blank + "." + Bench.base64(Bench.mac(0, secret, Bench.ascii(ahead))), 5);
        Judge.jwsText(blank + "." + Bench.base64(Bench.mac(0, secret, Bench.ascii(blank))), 0);
    }

    private static void alg() {
        Judge.jsonHeader("{\"alg\":\"HS256\"}", 0);
        Judge.jsonHeader("{\"alg\":\"HS512\"}", 4);
        State.Calls two = x -> {
            State.ready(x);
            Bench.addKey(x, 1, "r", Judge.SECRET);
        };
        Judge.due("HS512", two, 0, Bench.jws("{\"alg\":\"HS512\",\"kid\":\"r\"}", "{}", 1, Judge.SECRET), 0);
        Judge.due("HS256 of ALG 1", two, 0, Bench.jws("{\"alg\":\"HS256\",\"kid\":\"r\"}", "{}", 0, Judge.SECRET), 4);
        Judge.jsonHeader("{\"\\u0061l\\u0067\":\"\\u0048S25\\u0036\"}", 0);
        for (String value : new String[] {"\"\"", "\"HS\"", "\"HS25\"", "\"HS2566\"", "\"HS256 \"", "\" HS256\"", "\"hs256\"", "\"HS384\"", "\"HS255\"", "\"HS257\"",
                "\"none\"", "\"None\"", "\"RS256\"", "\"HS51\"", "\"HS5122\"", "\"HS\\u2056\"", "\"HS256\\u0000\"", "256", "5", "0", "null", "true", "{}", "[]",
                "[\"HS256\"]", "{\"alg\":\"HS256\"}"}) {
            Judge.jsonHeader("{\"alg\":" + value + ",\"kid\":\"q\"}", 2);
        }
        Judge.jsonHeader("{\"Alg\":\"HS256\",\"kid\":\"q\"}", 2);
        Judge.jsonHeader("{\"x\":{\"alg\":\"HS256\"},\"kid\":\"q\"}", 2);
    }

    private static void kid() {
        Judge.jsonHeader("{\"alg\":\"HS256\",\"kid\":\"q\"}", 0);
        Judge.jsonHeader("{\"alg\":\"HS256\",\"k\\u0069d\":\"\\u0071\"}", 0);
        for (String value : new String[] {"\"\"", "\"Q\"", "\"qq\"", "\"q \"", "\" q\"", "\"r\"", "\"\\u0171\"", "\"q\\u0000\"", "\"" + "q".repeat(100) + "\"", "1",
                "null", "true", "false", "[]", "[\"q\"]", "{}", "{\"kid\":\"q\"}", "0"}) {
            Judge.jsonHeader("{\"alg\":\"HS256\",\"kid\":" + value + "}", 3);
        }
        State.Calls odd = x -> Bench.addKey(x, 0, "\"\\/ ~a1", Judge.SECRET);
        Judge.due("a KID of escapes", odd, 0, Bench.jws("{\"alg\":\"HS256\",\"kid\":\"\\\"\\\\\\/ ~a1\"}", "{}", 0, Judge.SECRET), 0);
        Judge.due("a KID of other escapes", odd, 0, Bench.jws("{\"alg\":\"HS256\",\"kid\":\"\\u0022\\u005c/\\u0020~a\\u0031\"}", "{}", 0, Judge.SECRET), 0);
    }

    private static void crit() {
        for (String value : new String[] {"null", "true", "false", "0", "1.5", "\"\"", "\"exp\"", "[]", "[\"exp\"]", "{}", "{\"a\":1}"}) {
            Judge.jsonHeader("{\"alg\":\"HS256\",\"kid\":\"q\",\"crit\":" + value + "}", 2);
            Judge.jsonHeader("{\"crit\":" + value + ",\"alg\":\"HS256\"}", 2);
            Judge.jsonHeader("{\"alg\":\"HS256\",\"kid\":\"q\",\"Crit\":" + value + ",\"x\":{\"crit\":" + value + "}}", 0);
            Judge.json("{\"crit\":" + value + "}", 0);
        }
        Judge.jsonHeader("{\"alg\":\"HS256\",\"\\u0063rit\":1}", 2);
    }

    private static void issAndSub() {
        for (String name : new String[] {"iss", "sub"}) {
            for (String value : new String[] {"null", "true", "false", "0", "1", "-1.5", "[]", "[\"a\"]", "{}", "{\"a\":\"b\"}"}) {
                Judge.json("{\"" + name + "\":" + value + "}", 6);
                Judge.json("{\"" + name.toUpperCase() + "\":" + value + "}", 0);
            }
            for (String value : new String[] {"\"\"", "\"a\"", "\"\\u0000\"", "\"1\""}) {
                Judge.json("{\"" + name + "\":" + value + "}", 0);
            }
        }
    }

    private static void aud() {
        for (String value : new String[] {"null", "true", "0", "{}", "{\"a\":\"b\"}", "[1]", "[null]", "[\"a\",1]", "[1,\"a\"]", "[\"a\",null,\"b\"]", "[[]]",
                "[[\"a\"]]", "[\"a\",[]]", "[{}]", "[\"a\",{\"b\":\"c\"}]", "[true]"}) {
            Judge.json("{\"aud\":" + value + "}", 6);
            Judge.json("{\"audd\":" + value + "}", 0);
        }
        for (String value : new String[] {"\"\"", "\"a\"", "[]", "[ ]", "[\"\"]", "[\"a\"]", "[ \"a\" , \"a\" ]", "[\"\",\"\",\"\"]"}) {
            Judge.json("{\"aud\":" + value + "}", 0);
        }
    }

    private static void times() {
        for (String name : new String[] {"exp", "nbf", "iat"}) {
            for (String value : new String[] {"null", "true", "\"1\"", "\"\"", "[]", "[1]", "{}", "-1", "-2", "-9007199254740992"}) {
                Judge.json("{\"" + name + "\":" + value + "}", 6);
            }
        }
        Judge.json("{\"exp\":0}", 7);
        Judge.json("{\"exp\":-0}", 7);
        Judge.json("{\"exp\":1}", 0);
        Judge.json("{\"nbf\":0}", 0);
        Judge.json("{\"nbf\":-0,\"iat\":-0}", 0);
        Judge.json("{\"nbf\":1}", 8);
        Judge.json("{\"iat\":1}", 8);
    }

    private static void others() {
        Judge.json("{\"jti\":null,\"exp \":-1,\" exp\":\"x\",\"ex\":1,\"expp\":[],\"EXP\":{},\"iss2\":1,\"1\":1,\"\":false}", 0);
        Judge.json("{\"x\":{\"iss\":1,\"aud\":2,\"exp\":\"y\",\"nbf\":9},\"y\":[{\"exp\":-1}],\"alg\":1,\"kid\":2,\"crit\":3}", 0);
        Judge.json("{\"x\":" + Judge.list(30, "\"a\"") + ",\"aud\":[\"a\"],\"y\":" + Judge.list(30, "1") + "}", 0);
        Judge.jsonHeader("{\"typ\":\"JWT\",\"alg\":\"HS256\",\"kid\":\"q\",\"iss\":1,\"exp\":-1,\"aud\":[2],\"x\":{\"alg\":1,\"kid\":2,\"crit\":3}}", 0);
        Desk x = new Desk();
        State.ready(x);
        Bench.verify(x, 0, Bench.jws(Judge.JSON_HEADER, "{\"x\":{\"iss\":\"a\",\"exp\":9},\"Sub\":\"b\",\"aUd\":\"c\"}", 0, Judge.SECRET));
        for (int claim = 0; claim < 6; claim++) {
            Bench.due("has(" + claim + ") of other members", x.has(claim), -1);
        }
    }
}
