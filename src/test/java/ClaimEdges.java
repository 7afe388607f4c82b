/** The boundary cases of promises 5 to 8 and of the terms' IV: CLAIMS, and what is ISSUED of them. */
final class ClaimEdges {
    private static final int LEAST = Integer.MIN_VALUE;
    private static final int MOST = Integer.MAX_VALUE;
    private static final long NUMBER_MOST = 1L << 53;
    private static final byte[] SECRET = State.SECRET;
    private static final String HEADER = "{\"alg\":\"HS256\",\"kid\":\"q\"}";
    private static final String[] NAMES = {"iss", "sub", "aud", "exp", "nbf", "iat"};

    private ClaimEdges() {
    }

    static void all() {
        Edges.edge("5", "A text of CLAIMS (0 to 2) is the TAPE's bytes, which is empty then: how many", ClaimEdges::texts);
        Edges.edge("5", "(0 to 40", ClaimEdges::textSizes);
        Edges.edge("5", "all 32 .. 126)", ClaimEdges::textBytes);
        Edges.edge("5", "NONE, and the TAPE is empty all the same, for others", ClaimEdges::noTexts);
        Edges.edge("5", "or another claim", ClaimEdges::textOfAnother);
        Edges.edge("6", "A number of CLAIMS (3 to 5): true", ClaimEdges::numbers);
        Edges.edge("6", "false, and nothing changes, for another claim", ClaimEdges::numberOfAnother);
        Edges.edge("6", "or a number that is none such", ClaimEdges::noNumbers);
        Edges.edge("7", "One of CLAIMS is not set any more: 1", ClaimEdges::unset);
        Edges.edge("7", "0 if it was not", ClaimEdges::unsetAgain);
        Edges.edge("7", "NONE without such", ClaimEdges::unsetOfAnother);
        Edges.edge("8", "The CLAIMS that are set are ISSUED by a KEY, as JWS (0) or COSE (1): how many bytes OUT has then", ClaimEdges::issue);
        Edges.edge("8", "NONE, and OUT stays, without such a KEY", ClaimEdges::issueWithoutKey);
        Edges.edge("8", "or family", ClaimEdges::issueOfAnotherFamily);
        Edges.edge("IV", "ISSUED: JWS: HEADER {\"alg\":\"HS256\",\"kid\":\"...\"} (HS512)", ClaimEdges::headers);
        Edges.edge("IV", "PAYLOAD {\"iss\":\"..\",\"sub\":\"..\",\"aud\":\"..\",\"exp\":1,\"nbf\":2,\"iat\":3} with those CLAIMS that are set, "
                + "in this order, no blanks", ClaimEdges::payloads);
        Edges.edge("IV", "\" and \\ in STRINGS with a \\ ahead, all else as it is", ClaimEdges::escapes);
        Edges.edge("IV", "COSE: HEADER with keys 1, 4, PAYLOAD likewise, in the order that III wants", ClaimEdges::cose);
    }

    private static void duePayload(String what, Desk x, String payload) {
        Bench.addKey(x, 0, "q", SECRET);
        x.issue(0, x.count(5) - 1);
        Bench.dueOutOnTape(what, x, Bench.jws(HEADER, payload, 0, SECRET));
    }

    private static String member(int claim, String text) {
        return "{\"" + NAMES[claim] + "\":\"" + text + "\"}";
    }

    private static void texts() {
        for (int claim = 0; claim < 3; claim++) {
            int c = claim;
            Desk x = new Desk();
            Bench.put(x, "first");
            Bench.due("text(" + claim + ")", x.text(claim), 5);
            Bench.due("the TAPE", x.count(6), 0);
            Bench.put(x, "2nd");
            Bench.due("text(" + claim + ") instead", x.text(claim), 3);
            Bench.due("the TAPE", x.count(6), 0);
            duePayload("text(" + claim + ")", x, member(claim, "2nd"));
            State.same("text(" + claim + ") changes no other", y -> {
                State.busy(y);
                Bench.put(y, "else");
                y.text(c);
                y.unset(c);
            }, y -> {
                State.busy(y);
                y.unset(c);
            });
        }
    }

    private static void textSizes() {
        for (int claim = 0; claim < 3; claim++) {
            int c = claim;
            for (int size : new int[] {0, 1, 39, 40, 41, 42, 255, 256, 1500}) {
                boolean taken = size <= 40;
                String text = "x".repeat(size);
                Desk x = new Desk();
                Bench.put(x, text);
                Bench.due("text(" + claim + ") of " + size, x.text(claim), taken ? size : -1);
                Bench.due("the TAPE", x.count(6), 0);
                duePayload("text(" + claim + ") of " + size, x, taken ? member(claim, text) : "{}");
                if (!taken) {
                    State.Calls tape = State.fed(Bench.ascii(text));
                    State.dueEmptied("a text of " + size, State.then(State::busy, tape), y -> y.text(c), -1);
                }
            }
            Desk x = new Desk();
            Bench.put(x, "before");
            x.text(claim);
            Bench.due("text(" + claim + ") of none", x.text(claim), 0);
            Bench.due("it is set all the same", x.unset(claim), 1);
        }
    }

    private static void textBytes() {
        for (int b = 0; b < 256; b++) {
            boolean plain = b >= 32 && b <= 126;
            for (String text : new String[] {"" + (char) b, (char) b + "x".repeat(39), "x".repeat(39) + (char) b, "a" + (char) b + "c"}) {
                Desk x = new Desk();
                Bench.put(x, text);
                Bench.due("byte " + b + " in a text of " + text.length(), x.text(b % 3), plain ? text.length() : -1);
                Bench.due("the TAPE", x.count(6), 0);
                Bench.due("it is set", x.unset(b % 3), plain ? 1 : 0);
            }
        }
    }

    private static void noTexts() {
        for (String text : new String[] {"x".repeat(41), "\u001f", "\u007f", "a\u0080", "\u00ffb", "a\u0000", "\n", "x".repeat(40) + "\n"}) {
            for (int claim = 0; claim < 3; claim++) {
                int c = claim;
                State.Calls tape = State.fed(Bench.ascii(text));
                State.dueEmptied("no text, on a new desk", tape, x -> x.text(c), -1);
                State.dueEmptied("no text, on a busy one", State.then(State::busy, tape), x -> x.text(c), -1);
            }
        }
    }

    private static void textOfAnother() {
        for (int claim : new int[] {LEAST, -2, -1, 3, 4, 5, 6, 7, 258, MOST}) {
            for (String text : new String[] {"", "a", "x".repeat(40), "x".repeat(41)}) {
                State.Calls tape = State.fed(Bench.ascii(text));
                State.dueEmptied("text(" + claim + ")", State.then(State::busy, tape), x -> x.text(claim), -1);
            }
        }
    }

    private static void numbers() {
        for (int claim = 3; claim < 6; claim++) {
            int c = claim;
            for (long v : new long[] {0, 1, 9, 10, 99, 100, (1L << 31) - 1, 1L << 31, (1L << 32) - 1, 1L << 32, 999999999999999L, 1000000000000000L,
                    NUMBER_MOST - 1, NUMBER_MOST}) {
                Desk x = new Desk();
                x.number(claim, 5);
                Bench.due("number(" + claim + ", " + v + ")", x.number(claim, v), true);
                duePayload("number(" + claim + ", " + v + ")", x, "{\"" + NAMES[claim] + "\":" + v + "}");
            }
            State.same("number(" + claim + ") changes no other", x -> {
                State.busy(x);
                Bench.put(x, "tape");
                x.number(c, 77);
                x.unset(c);
            }, x -> {
                State.busy(x);
                Bench.put(x, "tape");
                x.unset(c);
            });
        }
    }

    private static void numberOfAnother() {
        for (int claim : new int[] {LEAST, -1, 0, 1, 2, 6, 7, 259, MOST}) {
            for (long v : new long[] {0, 7, NUMBER_MOST, -1}) {
                State.dueNothing("number(" + claim + ", " + v + ")", State::busy, x -> x.number(claim, v) ? 1 : 0, 0);
                State.dueNothing("number(" + claim + ", " + v + ") of a new desk", State::fresh, x -> x.number(claim, v) ? 1 : 0, 0);
            }
        }
    }

    private static void noNumbers() {
        for (int claim = 3; claim < 6; claim++) {
            int c = claim;
            for (long v : new long[] {Long.MIN_VALUE, -NUMBER_MOST, -(1L << 32), -1, NUMBER_MOST + 1, 1L << 54, 1L << 62, Long.MAX_VALUE}) {
                State.dueNothing("number(" + claim + ", " + v + ")", State::busy, x -> x.number(c, v) ? 1 : 0, 0);
                State.dueNothing("number(" + claim + ", " + v + ") of a new desk", State::fresh, x -> x.number(c, v) ? 1 : 0, 0);
            }
        }
    }

    private static void setAll(Desk x) {
        for (int claim = 5; claim >= 0; claim--) {
            set(x, claim);
        }
    }

    /** A text is "t" and its number, a number is its own. */
    private static void set(Desk x, int claim) {
        if (claim < 3) {
            Bench.put(x, "t" + claim);
            x.text(claim);
        } else {
            x.number(claim, claim);
        }
    }

    private static String payload(int set) {
        StringBuilder text = new StringBuilder("{");
        for (int claim = 0; claim < 6; claim++) {
            if ((set >> claim & 1) != 0) {
                text.append(text.length() > 1 ? "," : "").append('"').append(NAMES[claim]).append("\":")
                        .append(claim < 3 ? "\"t" + claim + "\"" : "" + claim);
            }
        }
        return text + "}";
    }

    private static void unset() {
        for (int claim = 0; claim < 6; claim++) {
            Desk x = new Desk();
            setAll(x);
            Bench.put(x, "tape");
            Bench.due("unset(" + claim + ")", x.unset(claim), 1);
            Bench.dueTape("unset(" + claim + ")", x, Bench.ascii("tape"));
            duePayload("unset(" + claim + ")", x, payload(63 & ~(1 << claim)));
            x.end(0);
            set(x, claim);
            Bench.due("set and unset(" + claim + ") again", x.unset(claim), 1);
        }
    }

    private static void unsetAgain() {
        for (int claim = 0; claim < 6; claim++) {
            int c = claim;
            State.dueNothing("unset(" + claim + ") of a new desk", State::fresh, x -> x.unset(c), 0);
            State.dueNothing("unset(" + claim + ") again", x -> {
                State.busy(x);
                x.unset(c);
            }, x -> x.unset(c), 0);
        }
        State.dueNothing("one that a busy desk has not set", State::busy, x -> x.unset(1), 0);
        State.dueNothing("another one", State::busy, x -> x.unset(5), 0);
    }

    private static void unsetOfAnother() {
        for (int claim : new int[] {LEAST, -1, 6, 7, 256, MOST}) {
            State.dueNothing("unset(" + claim + ")", State::busy, x -> x.unset(claim), -1);
            State.dueNothing("unset(" + claim + ") of a new desk", State::fresh, x -> x.unset(claim), -1);
        }
    }

    private static void issue() {
        Desk x = new Desk();
        Bench.addKey(x, 0, "q", SECRET);
        Bench.addKey(x, 1, "r", State.OTHER_SECRET);
        Bench.put(x, "me");
        x.text(0);
        x.number(5, 3);
        Bench.put(x, "tape");
        byte[][] want = {
            Bench.jws(HEADER, "{\"iss\":\"me\",\"iat\":3}", 0, SECRET),
            Bench.jws("{\"alg\":\"HS512\",\"kid\":\"r\"}", "{\"iss\":\"me\",\"iat\":3}", 1, State.OTHER_SECRET),
            Bench.cose(Bench.hex("a2 01 05 04 4171"), Bench.hex("a2 01 626d65 06 03"), 0, SECRET),
            Bench.cose(Bench.hex("a2 01 07 04 4172"), Bench.hex("a2 01 626d65 06 03"), 1, State.OTHER_SECRET),
        };
        for (int i = 0; i < 4; i++) {
            Bench.due("issue(" + i / 2 + ", " + i % 2 + ")", x.issue(i / 2, i % 2), want[i].length);
            Bench.due("OUT's bytes", x.count(7), want[i].length);
            Bench.due("ISSUED", x.count(4), i + 1);
            Bench.due("the TAPE", x.count(6), 4);
            Bench.due("the first byte", x.octet(0), want[i][0] & 255);
            Bench.due("the last byte", x.octet(want[i].length - 1), want[i][want[i].length - 1] & 255);
            Bench.due("none behind", x.octet(want[i].length), -1);
        }
        for (int i = 0; i < 4; i++) {
            x.issue(i / 2, i % 2);
            Bench.dueOutOnTape("the CLAIMS stay set, token " + i, x, want[i]);
        }
    }

    private static void issueWithoutKey() {
        for (int family = 0; family < 2; family++) {
            int f = family;
            for (int key : new int[] {LEAST, -1, 2, 3, 5, 6, 7, MOST}) {
                State.dueNothing("issue(" + family + ", " + key + ") of 2 KEYS", State::busy, x -> x.issue(f, key), -1);
            }
            for (int key : new int[] {-1, 0, 1, MOST}) {
                State.dueNothing("issue(" + family + ", " + key + ") of no KEY", State::fresh, x -> x.issue(f, key), -1);
            }
            Desk x = new Desk();
            for (int i = 0; i < 6; i++) {
                Bench.addKey(x, 0, "k" + i, SECRET);
                Bench.due("by the last KEY", x.issue(family, i) > 0, true);
                Bench.due("by one more", x.issue(family, i + 1), -1);
            }
        }
    }

    private static void issueOfAnotherFamily() {
        for (int family : new int[] {LEAST, -1, 2, 3, 256, MOST}) {
            for (int key : new int[] {0, 1, 2}) {
                State.dueNothing("issue(" + family + ", " + key + ")", State::busy, x -> x.issue(family, key), -1);
            }
        }
    }

    private static void headers() {
        String[] kids = {"q", "12345678", "\"", "\\", "\\\"\\\"\\\"\\\"", " ~", "/", "a\"b"};
        for (String kid : kids) {
            for (int alg = 0; alg < 2; alg++) {
                Desk x = new Desk();
                Bench.addKey(x, alg, kid, SECRET);
                x.issue(0, 0);
                String quoted = kid.replace("\\", "\\\\").replace("\"", "\\\"");
                String header = "{\"alg\":\"" + (alg == 0 ? "HS256" : "HS512") + "\",\"kid\":\"" + quoted + "\"}";
                Bench.dueOut("KID " + kid, x, Bench.jws(header, "{}", alg, SECRET));
            }
        }
    }

    private static void payloads() {
        for (int set = 0; set < 64; set++) {
            Desk x = new Desk();
            setAll(x);
            for (int claim = 0; claim < 6; claim++) {
                if ((set >> claim & 1) == 0) {
                    x.unset(claim);
                }
            }
            duePayload("the CLAIMS of " + set, x, payload(set));
        }
        Desk x = new Desk();
        setAll(x);
        for (int claim : new int[] {3, 0, 5, 1, 4, 2}) {
            x.unset(claim);
            set(x, claim);
        }
        duePayload("set in another order", x, payload(63));
        Desk y = new Desk();
        y.text(0);
        y.text(2);
        duePayload("texts of none", y, "{\"iss\":\"\",\"aud\":\"\"}");
    }

    private static void escapes() {
        for (int b = 32; b < 127; b++) {
            String text = "a" + (char) b;
            Desk x = new Desk();
            Bench.put(x, text);
            x.text(b % 3);
            duePayload("sign " + b, x, member(b % 3, b == '"' || b == '\\' ? "a\\" + (char) b : text));
        }
        String forty = "\"\\".repeat(20);
        Desk x = new Desk();
        for (int claim = 0; claim < 3; claim++) {
            Bench.put(x, forty);
            x.text(claim);
            x.number(claim + 3, NUMBER_MOST);
        }
        String quoted = "\\\"\\\\".repeat(20);
        duePayload("the longest", x, "{\"iss\":\"" + quoted + "\",\"sub\":\"" + quoted + "\",\"aud\":\"" + quoted + "\",\"exp\":" + NUMBER_MOST
                + ",\"nbf\":" + NUMBER_MOST + ",\"iat\":" + NUMBER_MOST + "}");
    }

    private static byte[] item(int claim) {
        return claim < 3 ? Bench.text("t" + claim) : Bench.head(0, claim);
    }

    private static void dueCose(String what, Desk x, byte[] payload) {
        Bench.addKey(x, 0, "q", SECRET);
        x.issue(1, 0);
        Bench.dueOutOnTape(what, x, Bench.cose(Bench.hex("a2 01 05 04 4171"), payload, 0, SECRET));
    }

    private static void cose() {
        for (int set = 0; set < 64; set++) {
            Desk x = new Desk();
            byte[] pairs = new byte[0];
            setAll(x);
            for (int claim = 0; claim < 6; claim++) {
                if ((set >> claim & 1) == 0) {
                    x.unset(claim);
                } else {
                    pairs = Bench.join(pairs, Bench.head(0, claim + 1), item(claim));
                }
            }
            dueCose("the CLAIMS of " + set, x, Bench.join(Bench.head(5, Integer.bitCount(set)), pairs));
        }
        for (int size : new int[] {0, 1, 22, 23, 24, 25, 39, 40}) {
            Desk x = new Desk();
            Bench.put(x, "\"".repeat(size));
            x.text(1);
            String head = size < 24 ? String.format("%02x", 0x60 + size) : String.format("78%02x", size);
            dueCose("a text of " + size, x, Bench.join(Bench.hex("a1 02" + head), Bench.ascii("\"".repeat(size))));
        }
        long[] numbers = {0, 23, 24, 255, 256, 65535, 65536, (1L << 32) - 1, 1L << 32, NUMBER_MOST};
        String[] heads = {"00", "17", "1818", "18ff", "190100", "19ffff", "1a00010000", "1affffffff", "1b0000000100000000", "1b0020000000000000"};
        for (int i = 0; i < numbers.length; i++) {
            for (int claim = 3; claim < 6; claim++) {
                Desk x = new Desk();
                x.number(claim, numbers[i]);
                dueCose("the number " + numbers[i], x, Bench.hex("a1" + String.format("%02x", claim + 1) + heads[i]));
            }
        }
        for (String kid : new String[] {"q", "12345678", "\"\\"}) {
            for (int alg = 0; alg < 2; alg++) {
                Desk x = new Desk();
                Bench.addKey(x, alg, kid, SECRET);
                x.issue(1, 0);
                byte[] header = Bench.join(Bench.hex(alg == 0 ? "a2 01 05 04" : "a2 01 07 04"), Bench.row(Bench.ascii(kid)));
                Bench.dueOut("KID " + kid, x, Bench.cose(header, Bench.hex("a0"), alg, SECRET));
            }
        }
    }
}
