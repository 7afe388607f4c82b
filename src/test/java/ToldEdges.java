/** The boundary cases of promises 15 to 18: what is told of the latest token that was ACCEPTED, and the counts. */
final class ToldEdges {
    private static final int LEAST = Integer.MIN_VALUE;
    private static final int MOST = Integer.MAX_VALUE;
    private static final byte[] SECRET = State.SECRET;

    private ToldEdges() {
    }

    static void all() {
        Edges.edge("15", "Of the latest verify() that was ACCEPTED, claim (0 to 5): how many signs of a text", ToldEdges::textSizes);
        Edges.edge("15", "(of AUD's first one", ToldEdges::firstOfAud);
        Edges.edge("15", "0 if AUD has none)", ToldEdges::emptyAud);
        Edges.edge("15", "of a number 1", ToldEdges::numberSizes);
        Edges.edge("15", "NONE: it is not there", ToldEdges::notThere);
        Edges.edge("15", "or there was none such", ToldEdges::noneAccepted);
        Edges.edge("16", "Sign i of a text of it", ToldEdges::signs);
        Edges.edge("16", "(of AUD the k-th one", ToldEdges::signsOfAud);
        Edges.edge("16", "k is of no matter of others)", ToldEdges::anyK);
        Edges.edge("16", "0 to 65535; NONE", ToldEdges::signEdges);
        Edges.edge("17", "A number of it; NONE", ToldEdges::numbers);
        Edges.edge("18", "Of it what 0: the KEY's number", ToldEdges::keyNumber);
        Edges.edge("18", "1: texts of AUD", ToldEdges::audCount);
        Edges.edge("18", "of all: 2: tokens ACCEPTED, 3: refused, 4: ISSUED, 5: KEYS, 6: bytes of the TAPE, 7: of OUT", ToldEdges::counts);
        Edges.edge("18", "NONE for 0, 1 without", ToldEdges::countsWithout);
        Edges.edge("18", "and for another what", ToldEdges::otherCounts);
    }

    private static Desk after(String json) {
        Desk x = new Desk();
        State.ready(x);
        Bench.due("PAYLOAD " + json, Bench.verify(x, 0, Bench.jws(Judge.JSON_HEADER, json, 0, SECRET)), 0);
        return x;
    }

    private static Desk afterCbor(String cbor) {
        Desk x = new Desk();
        State.ready(x);
        Bench.due("PAYLOAD " + cbor, Bench.verify(x, 1, Bench.cose(Bench.hex(Judge.CBOR_HEADER), Bench.hex(cbor), 0, SECRET)), 0);
        return x;
    }

    private static void textSizes() {
        for (int size : new int[] {0, 1, 2, 40, 41, 199, 200}) {
            for (int claim = 0; claim < 3; claim++) {
                String name = claim == 0 ? "iss" : claim == 1 ? "sub" : "aud";
                Desk x = after("{\"" + name + "\":" + Judge.quoted("a".repeat(size)) + "}");
                Desk y = afterCbor("a1" + String.format("%02x", claim + 1) + Judge.hexText(size));
                for (int c = 0; c < 6; c++) {
                    Bench.due("has(" + c + ")", x.has(c), c == claim ? size : -1);
                    Bench.due("has(" + c + ") of COSE", y.has(c), c == claim ? size : -1);
                }
            }
        }
        Desk x = after("{\"iss\":\"abc\"}");
        Bench.verify(x, 0, Bench.ascii("none"));
        Bench.due("a token that is refused changes nothing", x.has(0), 3);
        Bench.verify(x, 0, Bench.jws(Judge.JSON_HEADER, "{\"sub\":\"defg\"}", 0, SECRET));
        Bench.due("the latest one has no ISS", x.has(0), -1);
        Bench.due("the latest one's SUB", x.has(1), 4);
        State.dueNothing("has(0)", State::busy, y -> y.has(0), 3);
        State.dueNothing("has(1)", State::busy, y -> y.has(1), -1);
    }

    private static void firstOfAud() {
        Bench.due("a first of 2", after("{\"aud\":[\"ab\",\"cde\"]}").has(2), 2);
        Bench.due("a first of 0", after("{\"aud\":[\"\",\"cde\"]}").has(2), 0);
        Bench.due("a first of 200", after("{\"aud\":[" + Judge.quoted("a".repeat(200)) + ",\"\"]}").has(2), 200);
        Bench.due("the only one", after("{\"aud\":\"abcd\"}").has(2), 4);
        Bench.due("a first of 2 of COSE", afterCbor("a1 03 82 626162 63636465").has(2), 2);
        Bench.due("a first of 0 of COSE", afterCbor("a1 03 82 60 63636465").has(2), 0);
    }

    private static void emptyAud() {
        Bench.due("no text", after("{\"aud\":[]}").has(2), 0);
        Bench.due("no text of COSE", afterCbor("a1 03 80").has(2), 0);
        Bench.due("no AUD", after("{}").has(2), -1);
        Bench.due("no AUD of COSE", afterCbor("a0").has(2), -1);
        Desk x = after("{\"aud\":[\"abc\"]}");
        Bench.verify(x, 0, Bench.jws(Judge.JSON_HEADER, "{\"aud\":[]}", 0, SECRET));
        Bench.due("nothing of the one before", x.has(2), 0);
        Bench.due("no sign of the one before", x.sign(2, 0, 0), -1);
        Bench.due("no text of the one before", x.count(1), 0);
    }

    private static void numberSizes() {
        Desk x = after("{\"exp\":9007199254740992,\"nbf\":0,\"iat\":0}");
        Desk y = afterCbor("a3 04 1b0020000000000000 05 00 06 00");
        for (int claim = 3; claim < 6; claim++) {
            Bench.due("has(" + claim + ")", x.has(claim), 1);
            Bench.due("has(" + claim + ") of COSE", y.has(claim), 1);
        }
    }

    private static void notThere() {
        String[] members = {"\"iss\":\"a\"", "\"sub\":\"a\"", "\"aud\":\"a\"", "\"exp\":5", "\"nbf\":0", "\"iat\":0"};
        for (int claim = 0; claim < 6; claim++) {
            Desk x = after("{" + members[claim] + "}");
            for (int c = 0; c < 6; c++) {
                Bench.due("has(" + c + ") of " + members[claim], x.has(c), c == claim ? 1 : -1);
            }
        }
        for (int claim : new int[] {LEAST, -1, 6, 7, 256, MOST}) {
            State.dueNothing("has(" + claim + ")", State::busy, x -> x.has(claim), -1);
            State.dueNothing("sign(" + claim + ", 0, 0)", State::busy, x -> x.sign(claim, 0, 0), -1);
            State.dueNothing("claim(" + claim + ")", State::busy, x -> x.claim(claim), -1);
        }
        Desk x = after("{\"iss\":null,\"exp\":1}".replace("null", "\"\""));
        Bench.due("a text of none is there", x.has(0), 0);
    }

    private static void noneAccepted() {
        Desk x = new Desk();
        Bench.addKey(x, 0, "q", SECRET);
        Bench.put(x, "a");
        x.text(0);
        x.number(3, 5);
        x.issue(0, 0);
        Bench.verify(x, 0, Bench.jws(Judge.JSON_HEADER, "{\"iss\":\"a\",\"aud\":\"b\",\"exp\":0}", 0, SECRET));
        Bench.verify(x, 0, Bench.jws(Judge.JSON_HEADER, "{\"iss\":\"a\",\"sub\":1}", 0, SECRET));
        Bench.due("refused", x.count(3), 2);
        for (int claim = -1; claim <= 6; claim++) {
            Bench.due("has(" + claim + ")", x.has(claim), -1);
            Bench.due("claim(" + claim + ")", x.claim(claim), -1);
            Bench.due("sign(" + claim + ", 0, 0)", x.sign(claim, 0, 0), -1);
        }
    }

    private static void signs() {
        Desk x = after("{\"iss\":\"abc\",\"sub\":\"\",\"exp\":5}");
        for (int i = 0; i < 3; i++) {
            Bench.due("sign(0, 0, " + i + ")", x.sign(0, 0, i), 'a' + i);
        }
        for (int i : new int[] {LEAST, -1, 3, 4, 200, 1500, MOST}) {
            Bench.due("sign(0, 0, " + i + ")", x.sign(0, 0, i), -1);
            Bench.due("sign(1, 0, " + i + ")", x.sign(1, 0, i), -1);
        }
        Bench.due("sign(1, 0, 0) of no signs", x.sign(1, 0, 0), -1);
        Bench.due("sign(2, 0, 0) of no AUD", x.sign(2, 0, 0), -1);
        Bench.due("sign(3, 0, 0) of a number", x.sign(3, 0, 0), -1);
        Bench.due("sign(4, 0, 0) of none", x.sign(4, 0, 0), -1);
        Desk y = afterCbor("a2 01 63616263 02 617e");
        Bench.due("sign(0, 0, 2) of COSE", y.sign(0, 0, 2), 'c');
        Bench.due("sign(0, 0, 3) of COSE", y.sign(0, 0, 3), -1);
        Bench.due("sign(1, 0, 0) of COSE", y.sign(1, 0, 0), '~');
        State.dueNothing("sign(0, 0, 2)", State::busy, z -> z.sign(0, 0, 2), 'u');
        State.dueNothing("sign(0, 0, 3)", State::busy, z -> z.sign(0, 0, 3), -1);
    }

    private static void signsOfAud() {
        for (int n : new int[] {1, 2, 19, 20}) {
            StringBuilder json = new StringBuilder();
            StringBuilder cbor = new StringBuilder();
            for (int k = 0; k < n; k++) {
                String text = "" + (char) ('a' + k) + (char) ('A' + k);
                json.append(k > 0 ? "," : "").append(Judge.quoted(text));
                cbor.append(Judge.hex(Bench.text(text)));
            }
            Desk x = after("{\"aud\":[" + json + "]}");
            Desk y = afterCbor("a1 03" + Judge.hex(Bench.head(4, n)) + cbor);
            for (Desk z : new Desk[] {x, y}) {
                for (int k = 0; k < n; k++) {
                    Bench.due("sign(2, " + k + ", 0)", z.sign(2, k, 0), 'a' + k);
                    Bench.due("sign(2, " + k + ", 1)", z.sign(2, k, 1), 'A' + k);
                    Bench.due("sign(2, " + k + ", 2)", z.sign(2, k, 2), -1);
                    Bench.due("sign(2, " + k + ", -1)", z.sign(2, k, -1), -1);
                }
                for (int k : new int[] {LEAST, -1, n, n + 1, 20, 21, MOST}) {
                    Bench.due("sign(2, " + k + ", 0) of " + n, z.sign(2, k, 0), -1);
                }
            }
        }
        Desk x = after("{\"aud\":\"ab\"}");
        Bench.due("sign(2, 0, 1) of the only one", x.sign(2, 0, 1), 'b');
        Bench.due("sign(2, 1, 0) of the only one", x.sign(2, 1, 0), -1);
        Desk y = after("{\"aud\":[\"\",\"b\",\"\"]}");
        Bench.due("sign(2, 0, 0) of a text of none", y.sign(2, 0, 0), -1);
        Bench.due("sign(2, 1, 0)", y.sign(2, 1, 0), 'b');
        Bench.due("sign(2, 2, 0) of a text of none", y.sign(2, 2, 0), -1);
        Desk z = after("{\"aud\":[\"a\",\"b\",\"c\"]}");
        Bench.verify(z, 0, Bench.jws(Judge.JSON_HEADER, "{\"aud\":[\"d\"]}", 0, SECRET));
        Bench.due("the latest one's first", z.sign(2, 0, 0), 'd');
        Bench.due("no second of the one before", z.sign(2, 1, 0), -1);
    }

    private static void anyK() {
        Desk x = after("{\"iss\":\"ab\",\"sub\":\"c\"}");
        for (int k : new int[] {LEAST, -1, 0, 1, 2, 19, 20, 21, 1500, MOST}) {
            Bench.due("sign(0, " + k + ", 1)", x.sign(0, k, 1), 'b');
            Bench.due("sign(1, " + k + ", 0)", x.sign(1, k, 0), 'c');
            Bench.due("sign(1, " + k + ", 1)", x.sign(1, k, 1), -1);
            Bench.due("sign(2, " + k + ", 0)", x.sign(2, k, 0), -1);
        }
    }

    private static void signEdges() {
        Desk x = after("{\"iss\":\"\\u0000\\uffff\\u8000\\u7fff\",\"aud\":[\"a\",\"\\uFFFF\\u0000\"]}");
        int[] want = {0, 65535, 32768, 32767};
        for (int i = 0; i < 4; i++) {
            Bench.due("sign(0, 0, " + i + ")", x.sign(0, 0, i), want[i]);
        }
        Bench.due("sign(0, 0, 4)", x.sign(0, 0, 4), -1);
        Bench.due("sign(2, 1, 0)", x.sign(2, 1, 0), 65535);
        Bench.due("sign(2, 1, 1)", x.sign(2, 1, 1), 0);
        Bench.due("sign(2, 1, 2)", x.sign(2, 1, 2), -1);
    }

    private static void numbers() {
        for (long v : new long[] {1, 23, 24, 255, 256, 65535, 65536, (1L << 31) - 1, 1L << 31, (1L << 32) - 1, 1L << 32, (1L << 53) - 1, 1L << 53}) {
            Bench.due("claim(3)", after("{\"exp\":" + v + "}").claim(3), v);
            Bench.due("claim(3) of COSE", afterCbor("a1 04" + Judge.hex(Bench.head(0, v))).claim(3), v);
            Desk x = new Desk();
            Bench.addKey(x, 0, "q", SECRET);
            x.now(v);
            Bench.verify(x, 0, Bench.jws(Judge.JSON_HEADER, "{\"nbf\":" + v + ",\"iat\":" + (v - 1) + "}", 0, SECRET));
            Bench.due("claim(4)", x.claim(4), v);
            Bench.due("claim(5)", x.claim(5), v - 1);
            Bench.due("claim(3) is not there", x.claim(3), -1);
        }
        Desk x = after("{\"iss\":\"a\",\"sub\":\"b\",\"aud\":\"c\",\"nbf\":0}");
        long[] want = {-1, -1, -1, -1, -1, 0, -1, -1};
        for (int claim = -1; claim <= 6; claim++) {
            Bench.due("claim(" + claim + ")", x.claim(claim), want[claim + 1]);
        }
        Bench.due("claim(least)", x.claim(LEAST), -1);
        Bench.due("claim(most)", x.claim(MOST), -1);
        State.dueNothing("claim(3)", State::busy, y -> y.claim(3), 9);
        State.dueNothing("claim(4)", State::busy, y -> y.claim(4), -1);
    }

    private static void keyNumber() {
        Desk x = new Desk();
        for (int i = 0; i < 6; i++) {
            Bench.addKey(x, i % 2, "k" + i, SECRET);
        }
        for (int i : new int[] {5, 0, 3, 4, 1, 2}) {
            for (int family = 0; family < 2; family++) {
                x.back(0, x.issue(family, i));
                Bench.due("verify", x.verify(family), 0);
                Bench.due("count(0)", x.count(0), i);
                Bench.verify(x, 0, Bench.ascii("none"));
                Bench.due("count(0) of the latest that was ACCEPTED", x.count(0), i);
            }
        }
        Desk one = new Desk();
        Bench.addKey(one, 0, "q", SECRET);
        Bench.verify(one, 0, Bench.jws("{\"alg\":\"HS256\"}", "{}", 0, SECRET));
        Bench.due("the only KEY's, without a kid", one.count(0), 0);
        Bench.addKey(one, 0, "r", SECRET);
        Bench.due("still so with two", one.count(0), 0);
    }

    private static void audCount() {
        for (int n : new int[] {0, 1, 2, 19, 20}) {
            Bench.due("count(1) of " + n, after("{\"aud\":" + Judge.list(n, "\"a\"") + "}").count(1), n);
            Bench.due("count(1) of " + n + " of COSE", afterCbor("a1 03" + Judge.hex(Bench.head(4, n)) + "60".repeat(n)).count(1), n);
        }
        Bench.due("count(1) of a text", after("{\"aud\":\"a\"}").count(1), 1);
        Bench.due("count(1) of a text of none", after("{\"aud\":\"\"}").count(1), 1);
        Bench.due("count(1) without AUD", after("{}").count(1), 0);
        Desk x = after("{\"aud\":[\"a\",\"b\"]}");
        Bench.verify(x, 0, Bench.jws(Judge.JSON_HEADER, "{\"aud\":[\"a\",\"b\",\"c\",1]}", 0, SECRET));
        Bench.due("one that was refused changes nothing", x.count(1), 2);
    }

    private static void counts() {
        Desk x = new Desk();
        int[] want = {-1, -1, 0, 0, 0, 0, 0, 0};
        dueCounts("new", x, want);
        Bench.put(x, "qsecret");
        want[6] = 7;
        dueCounts("fed", x, want);
        x.key(0, 1);
        want[5] = 1;
        want[6] = 0;
        dueCounts("a KEY", x, want);
        want[7] = x.issue(1, 0);
        want[4] = 1;
        dueCounts("ISSUED", x, want);
        want[6] = x.back(0, want[7]);
        dueCounts("brought back", x, want);
        x.verify(1);
        want[0] = 0;
        want[1] = 0;
        want[2] = 1;
        want[6] = 0;
        dueCounts("ACCEPTED", x, want);
        x.verify(1);
        want[3] = 1;
        dueCounts("refused", x, want);
        x.issue(1, 1);
        x.verify(2);
        x.key(0, 1);
        dueCounts("what answers NONE counts nowhere", x, want);
        for (int what = 0; what < 8; what++) {
            int w = what;
            State.dueNothing("count(" + what + ")", State::fresh, y -> y.count(w), what < 2 ? -1 : 0);
        }
        manyCalls();
    }

    private static void dueCounts(String when, Desk x, int[] want) {
        for (int what = 0; what < 8; what++) {
            Bench.due(when + ": count(" + what + ")", x.count(what), want[what]);
        }
    }

    /** All of the 512 calls that are promised: the last one still answers as due. */
    private static void manyCalls() {
        Desk x = new Desk();
        x.feed(0x71717171, 0, 0, 0, 0);
        x.key(1, 1);
        int size = x.issue(0, 0);
        for (int i = 0; i < 100; i++) {
            x.back(0, size);
            Bench.due("round " + i + ", ACCEPTED", x.verify(0), 0);
            Bench.due("round " + i + ", refused", x.verify(1), 1);
            Bench.due("round " + i + ", ISSUED", x.issue(0, 0), size);
            Bench.due("round " + i + ", the TAPE", x.count(6), 0);
        }
        Bench.due("ACCEPTED", x.count(2), 100);
        Bench.due("refused", x.count(3), 100);
        Bench.due("ISSUED", x.count(4), 101);
        while (x.callsLeft() > 1) {
            Bench.due("one call more", x.end(0), 0);
        }
        Bench.due("the last call", x.count(4), 101);
    }

    private static void countsWithout() {
        State.dueNothing("count(0) of a new desk", State::fresh, x -> x.count(0), -1);
        State.dueNothing("count(1) of a new desk", State::fresh, x -> x.count(1), -1);
        State.Calls refused = x -> {
            Bench.addKey(x, 0, "q", SECRET);
            Bench.verify(x, 0, Bench.jws(Judge.JSON_HEADER, "{\"aud\":[\"a\"],\"exp\":0}", 0, SECRET));
            x.issue(0, 0);
        };
        State.dueNothing("count(0) of none that was ACCEPTED", refused, x -> x.count(0), -1);
        State.dueNothing("count(1) of none that was ACCEPTED", refused, x -> x.count(1), -1);
        State.dueNothing("count(0) of one", State::busy, x -> x.count(0), 0);
        State.dueNothing("count(1) of one", State::busy, x -> x.count(1), 2);
    }

    private static void otherCounts() {
        for (int what : new int[] {LEAST, -2, -1, 8, 9, 256, MOST}) {
            State.dueNothing("count(" + what + ")", State::busy, x -> x.count(what), -1);
            State.dueNothing("count(" + what + ") of a new desk", State::fresh, x -> x.count(what), -1);
        }
    }
}
