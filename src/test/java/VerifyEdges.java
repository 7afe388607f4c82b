import java.util.Arrays;

/** The boundary cases of promise 14 and of the questions in the terms' V. */
final class VerifyEdges {
    private static final byte[] SECRET = State.SECRET;
    private static final byte[] OTHER = State.OTHER_SECRET;
    private static final long NUMBER_MOST = 1L << 53;

    private VerifyEdges() {
    }

    static void all() {
        Edges.edge("14", "The TAPE, which is empty then, is VERIFIED, as JWS (0) or COSE (1): 0 ACCEPTED, or why not (1 to 10)", VerifyEdges::eachReason);
        Edges.edge("14", "NONE, and nothing happens, for another family", VerifyEdges::anotherFamily);
        Edges.edge("V", "VERIFIED (family by the call); the first of", VerifyEdges::firstOf);
        Edges.edge("V", "1 its form: JWS: not three parts, or one that is no BASE64URL", VerifyEdges::noParts);
        Edges.edge("V", "or HEADER or PAYLOAD is no JSON as told", VerifyEdges::noJson);
        Edges.edge("V", "COSE: not as III tells, up to the last byte", VerifyEdges::noCose);
        Edges.edge("V", "2 alg lacks, or is none of these", VerifyEdges::noAlg);
        Edges.edge("V", "or there is crit", VerifyEdges::crit);
        Edges.edge("V", "3 kid is there, and no STRING (bytes' row)", VerifyEdges::strangeKid);
        Edges.edge("V", "or no KEY's KID", VerifyEdges::noKeysKid);
        Edges.edge("V", "or is not there, and there is not just one KEY", VerifyEdges::notJustOneKey);
        Edges.edge("V", "4 the KEY's ALG is another one", VerifyEdges::anotherAlg);
        Edges.edge("V", "5 the MAC is another one", VerifyEdges::anotherMac);
        Edges.edge("V", "(or of another length)", VerifyEdges::macLengths);
        Edges.edge("V", "6 one of the CLAIMS is there, but not as told", VerifyEdges::strangeClaims);
        Edges.edge("V", "or more than 200 signs of a text", VerifyEdges::signsOfAText);
        Edges.edge("V", "(of AUD's all together)", VerifyEdges::signsOfAud);
        Edges.edge("V", "or more than 20 in AUD", VerifyEdges::textsOfAud);
        Edges.edge("V", "7 EXP lacks, if the POLICY wants it", VerifyEdges::expLacks);
        Edges.edge("V", "or is not above NOW less LEEWAY", VerifyEdges::expired);
        Edges.edge("V", "8 NBF or IAT is above NOW and LEEWAY", VerifyEdges::early);
        Edges.edge("V", "9 the POLICY has an ISSUER, and ISS lacks or is another one", VerifyEdges::issuer);
        Edges.edge("V", "10 the POLICY has an AUDIENCE, and AUD lacks", VerifyEdges::audienceLacks);
        Edges.edge("V", "or none of its texts is it", VerifyEdges::audience);
        Edges.edge("V", "(7 to 10 in this order.)", VerifyEdges::policyOrder);
    }

    private static byte[] jws(String header, String payload) {
        return Bench.jws(header, payload, 0, SECRET);
    }

    private static byte[] cose(String header, String payload) {
        return Bench.cose(Bench.hex(header), Bench.hex(payload), 0, SECRET);
    }

    /** The same PAYLOAD in both families, by the KEY "q". */
    private static void due(State.Calls before, String json, String cbor, int want) {
        Judge.due("PAYLOAD " + json, before, 0, jws(Judge.JSON_HEADER, json), want);
        Judge.due("PAYLOAD " + cbor, before, 1, cose(Judge.CBOR_HEADER, cbor), want);
    }

    /** The same HEADER in both families, with an empty PAYLOAD. */
    private static void dueHeader(State.Calls before, String json, String cbor, int want) {
        Judge.due("HEADER " + json, before, 0, jws(json, "{}"), want);
        Judge.due("HEADER " + cbor, before, 1, cose(cbor, "a0"), want);
    }

    /** A POLICY that wants all: NOW 100, EXP, the ISSUER "i", the AUDIENCE "a"; a second KEY ("r", of ALG 1). */
    private static void strict(Desk x) {
        State.ready(x);
        Bench.addKey(x, 1, "r", OTHER);
        x.now(100);
        x.policy(0, true);
        Bench.put(x, "i");
        x.wants(0);
        Bench.put(x, "a");
        x.wants(1);
    }

    /** Of each reason a token that has it and all that come behind it; the last one is ACCEPTED. */
    private static byte[][] tokens(int family) {
        boolean json = family == 0;
        String[] headers = json
                ? new String[] {"{\"alg\":\"x\",\"kid\":1}", "{\"alg\":\"HS256\",\"kid\":\"z\"}", "{\"alg\":\"HS256\",\"kid\":\"r\"}", Judge.JSON_HEADER}
                : new String[] {"a2 01 06 04 00", "a2 01 05 04 417a", "a2 01 05 04 4172", Judge.CBOR_HEADER};
        String[] payloads = json
                ? new String[] {"{\"sub\":1,\"exp\":100,\"nbf\":101,\"aud\":\"b\"}", "{\"exp\":100,\"nbf\":101,\"aud\":\"b\"}", "{\"exp\":101,\"nbf\":101,\"aud\":\"b\"}",
                    "{\"exp\":101,\"nbf\":100,\"aud\":\"b\"}", "{\"exp\":101,\"nbf\":100,\"iss\":\"i\",\"aud\":\"b\"}",
                    "{\"exp\":101,\"nbf\":100,\"iss\":\"i\",\"aud\":\"a\"}"}
                : new String[] {"a4 02 01 03 6162 04 1864 05 1865", "a3 03 6162 04 1864 05 1865", "a3 03 6162 04 1865 05 1865", "a3 03 6162 04 1865 05 1864",
                    "a4 01 6169 03 6162 04 1865 05 1864", "a4 01 6169 03 6161 04 1865 05 1864"};
        byte[][] tokens = new byte[11][];
        tokens[0] = token(family, headers[0], payloads[0] + (json ? "x" : "00"), OTHER);
        for (int i = 0; i < 4; i++) {
            tokens[i + 1] = token(family, headers[i], payloads[0], OTHER);
        }
        for (int i = 0; i < 6; i++) {
            tokens[i + 5] = token(family, headers[3], payloads[i], SECRET);
        }
        return tokens;
    }

    private static byte[] token(int family, String header, String payload, byte[] secret) {
        return family == 0 ? Bench.jws(header, payload, 0, secret) : Bench.cose(Bench.hex(header), Bench.hex(payload), 0, secret);
    }

    private static void eachReason() {
        for (int family = 0; family < 2; family++) {
            byte[][] tokens = tokens(family);
            Desk x = new Desk();
            strict(x);
            int accepted = x.count(2);
            int refused = x.count(3);
            for (int i = 0; i <= 10; i++) {
                Bench.due("token " + i + " of family " + family, Bench.verify(x, family, tokens[i]), (i + 1) % 11);
                Bench.due("the TAPE", x.count(6), 0);
                Bench.due("refused", x.count(3), refused + Math.min(i + 1, 10));
                Bench.due("ACCEPTED", x.count(2), accepted + (i == 10 ? 1 : 0));
                Bench.due("verify(" + family + ") of the TAPE that is empty then", x.end(1), -1);
            }
            nothingIsLeft(family);
            int f = family;
            State.same("an ACCEPTED token changes what is told of it alone", y -> {
                State.busy(y);
                Bench.verify(y, f, token(f, f == 0 ? Judge.JSON_HEADER : Judge.CBOR_HEADER, f == 0
                        ? "{\"iss\":\"iss\",\"aud\":\"all\",\"exp\":2000}" : "a3 01 63697373 03 63616c6c 04 1907d0", SECRET));
            }, y -> {
                State.busy(y);
                Bench.verify(y, 1 - f, token(1 - f, f == 1 ? Judge.JSON_HEADER : Judge.CBOR_HEADER, f == 1
                        ? "{\"iss\":\"iss\",\"aud\":\"all\",\"exp\":2000}" : "a3 01 63697373 03 63616c6c 04 1907d0", SECRET));
            });
        }
    }

    /** What a token held, ACCEPTED or refused, is no part of the next one. */
    private static void nothingIsLeft(int family) {
        boolean json = family == 0;
        String header = json ? Judge.JSON_HEADER : Judge.CBOR_HEADER;
        String[] refused = json
                ? new String[] {"{\"aud\":[\"b\",\"a\"],\"exp\":0}", "{\"aud\":[1,2]}", "{\"iss\":1,\"exp\":-1}", "{\"aud\":" + Judge.list(21, "\"a\"") + "}", "{\"nbf\":9}"}
                : new String[] {"a2 03 82 6162 6161 04 00", "a1 03 82 01 02", "a2 01 01 04 20", "a1 03 95" + "6161".repeat(21), "a1 05 09"};
        int[] reasons = {7, 6, 6, 6, 8};
        String plain = json ? "{\"aud\":[\"b\"]}" : "a1 03 81 6162";
        String wanted = json ? "{\"aud\":[\"c\",\"a\"]}" : "a1 03 82 6163 6161";
        for (int i = 0; i < refused.length; i++) {
            Desk x = new Desk();
            State.ready(x);
            Bench.put(x, "a");
            x.wants(1);
            Bench.due("the one before", Bench.verify(x, family, token(family, header, refused[i], SECRET)), reasons[i]);
            Bench.due("one without the AUDIENCE", Bench.verify(x, family, token(family, header, plain, SECRET)), 10);
            Bench.due("one with it", Bench.verify(x, family, token(family, header, wanted, SECRET)), 0);
            Bench.due("one without it again", Bench.verify(x, family, token(family, header, plain, SECRET)), 10);
            Bench.due("one without AUD", Bench.verify(x, family, token(family, header, json ? "{}" : "a0", SECRET)), 10);
            Bench.due("the latest's texts", x.count(1), 2);
            Bench.due("the latest's first", x.sign(2, 0, 0), 'c');
        }
        manyRefused(family);
    }

    /** Tokens with all the names and signs that they have room for, broken off: a whole one that follows has room too. */
    private static void manyRefused(int family) {
        Desk x = new Desk();
        State.ready(x);
        StringBuilder json = new StringBuilder("{\"\":0");
        for (int i = 0; i < 95; i++) {
            json.append(",\"").append(i).append("\":0");
        }
        String text = "a".repeat(200);
        byte[] broken = family == 0 ? Bench.jws(Judge.JSON_HEADER, json + ",", 0, SECRET)
                : cose(Judge.CBOR_HEADER, "a1 07 82" + Judge.hexText(700));
        byte[] whole = family == 0 ? jws(Judge.JSON_HEADER, "{\"iss\":" + Judge.quoted(text) + ",\"sub\":" + Judge.quoted(text) + "}")
                : cose(Judge.CBOR_HEADER, "a2 01" + Judge.hexText(200) + "02" + Judge.hexText(200));
        for (int i = 0; i < 7; i++) {
            Bench.due("one that is broken off", Bench.verify(x, family, broken), 1);
        }
        Bench.due("a whole one", Bench.verify(x, family, whole), 0);
        Bench.due("its SUB", x.has(1), 200);
        Bench.due("its SUB's last sign", x.sign(1, 0, 199), 'a');
        if (family == 0) {
            Desk y = new Desk();
            State.ready(y);
            for (int i = 0; i < 6; i++) {
                Bench.verify(y, 0, broken);
            }
            Bench.due("one with as many names", Bench.verify(y, 0, jws(Judge.JSON_HEADER, json + "}")), 0);
        }
    }

    private static void anotherFamily() {
        for (int family : new int[] {Integer.MIN_VALUE, -2, -1, 2, 3, 256, Integer.MAX_VALUE}) {
            State.dueNothing("verify(" + family + ") of a JWS", State.then(State::busy, State.fed(jws(Judge.JSON_HEADER, "{}"))), x -> x.verify(family), -1);
            State.dueNothing("verify(" + family + ") of a COSE", State.then(State::ready, State.fed(cose(Judge.CBOR_HEADER, "a0"))), x -> x.verify(family), -1);
            State.dueNothing("verify(" + family + ") of no TAPE", State::fresh, x -> x.verify(family), -1);
            Desk x = new Desk();
            State.ready(x);
            Bench.put(x, jws(Judge.JSON_HEADER, "{}"));
            x.verify(family);
            Bench.due("the TAPE is VERIFIED by another call", x.verify(0), 0);
        }
    }

    private static void firstOf() {
        for (int family = 0; family < 2; family++) {
            byte[][] tokens = tokens(family);
            for (int i = 0; i <= 10; i++) {
                Judge.due("all from reason " + (i + 1) + " on", VerifyEdges::strict, family, tokens[i], (i + 1) % 11);
                Judge.due("of the other family", VerifyEdges::strict, 1 - family, tokens[i], 1);
            }
        }
    }

    private static void noParts() {
        String whole = new String(jws(Judge.JSON_HEADER, "{}"), java.nio.charset.StandardCharsets.ISO_8859_1);
        String[] parts = whole.split("\\.");
        Judge.jwsText(whole, 0);
        Judge.jwsText(parts[0] + "." + parts[1], 1);
        Judge.jwsText(whole + "." + parts[2], 1);
        for (int i = 0; i < 3; i++) {
            for (String spoil : new String[] {"=", "+", "/", " ", "\n", "\u0000", "\u00ff", "*"}) {
                String[] spoilt = parts.clone();
                spoilt[i] = parts[i] + spoil;
                Judge.jwsText(String.join(".", spoilt), 1);
                spoilt[i] = spoil + parts[i].substring(1);
                Judge.jwsText(String.join(".", spoilt), 1);
            }
        }
        // The form comes ahead of all: no KEY, alg and MAC are asked for.
        Judge.due("no KEY", State::fresh, 0, Bench.ascii(whole + "="), 1);
        Judge.jwsText("e30.e30.*", 1);
        Judge.jwsText("e30.e30.", 2);
    }

    private static void noJson() {
        for (String text : new String[] {"", "{", "[]", "{}{}", "{\"a\":1,\"a\":1}", "{\"a\":01}", "{\"a\":\"\u0080\"}", "{\"a\":" + "[".repeat(8) + "]".repeat(8) + "}"}) {
            Judge.json(text, 1);
            Judge.jsonHeader(text, 1);
            Judge.json("{}", text, 1);
        }
        Judge.json("{}", "{}", 2);
    }

    private static void noCose() {
        byte[] whole = cose(Judge.CBOR_HEADER, "a0");
        Judge.token(1, whole, 0);
        Judge.token(1, Bench.join(whole, new byte[1]), 1);
        Judge.token(1, Arrays.copyOf(whole, whole.length - 1), 1);
        for (String text : new String[] {"", "a1", "80", "a000", "a2 07f6 07f6", "a1 07 1801", "a1 07 6180", "a1 07" + "81".repeat(7) + "80", "bfff", "a1 07 f7"}) {
            Judge.cbor(text, 1);
            Judge.cborHeader(text, 1);
            Judge.cbor("a0", text, 1);
        }
        Judge.cbor("a0", "a0", 2);
        Judge.due("no KEY", State::fresh, 1, Arrays.copyOf(whole, whole.length - 1), 1);
    }

    private static void noAlg() {
        dueHeader(State::ready, "{\"alg\":\"HS256\",\"kid\":\"q\"}", "a2 01 05 04 4171", 0);
        dueHeader(State::ready, "{\"kid\":\"q\"}", "a1 04 4171", 2);
        dueHeader(State::ready, "{}", "a0", 2);
        dueHeader(State::ready, "{\"alg\":\"HS384\",\"kid\":\"q\"}", "a2 01 06 04 4171", 2);
        dueHeader(State::ready, "{\"alg\":5,\"kid\":\"q\"}", "a2 01 654853323536 04 4171", 2);
        // Ahead of 3: a kid that is no KEY's, or there is no KEY.
        dueHeader(State::ready, "{\"alg\":\"none\",\"kid\":\"z\"}", "a2 01 00 04 417a", 2);
        dueHeader(State::fresh, "{\"alg\":\"none\"}", "a1 01 00", 2);
        dueHeader(State::fresh, "{\"alg\":\"HS256\"}", "a1 01 05", 3);
    }

    private static void crit() {
        dueHeader(State::ready, "{\"alg\":\"HS256\",\"kid\":\"q\",\"crit\":null}", "a3 01 05 02 f6 04 4171", 2);
        dueHeader(State::ready, "{\"alg\":\"HS256\",\"kid\":\"q\",\"crit\":[]}", "a3 01 05 02 80 04 4171", 2);
        dueHeader(State::ready, "{\"alg\":\"HS256\",\"kid\":\"z\",\"crit\":[\"exp\"]}", "a3 01 05 02 8104 04 417a", 2);
        dueHeader(State::fresh, "{\"alg\":\"HS256\",\"crit\":0}", "a2 01 05 02 00", 2);
        dueHeader(State::ready, "{\"alg\":\"HS256\",\"kid\":\"q\",\"x\":{\"crit\":0}}", "a3 01 05 04 4171 07 a1 02 00", 0);
    }

    private static void strangeKid() {
        dueHeader(State::ready, "{\"alg\":\"HS256\",\"kid\":\"q\"}", "a2 01 05 04 4171", 0);
        String[][] kids = {{"1", "01"}, {"null", "f6"}, {"[\"q\"]", "814171"}, {"{}", "a0"}, {"true", "f5"}, {"0", "6171"}, {"[]", "80"}};
        for (String[] kid : kids) {
            dueHeader(State::ready, "{\"alg\":\"HS256\",\"kid\":" + kid[0] + "}", "a2 01 05 04" + kid[1], 3);
            // Ahead of 4: the only KEY's ALG would be another one.
            dueHeader(State::ready, "{\"alg\":\"HS512\",\"kid\":" + kid[0] + "}", "a2 01 07 04" + kid[1], 3);
        }
    }

    private static void noKeysKid() {
        dueHeader(State::fresh, "{\"alg\":\"HS256\",\"kid\":\"q\"}", "a2 01 05 04 4171", 3);
        dueHeader(State::ready, "{\"alg\":\"HS256\",\"kid\":\"r\"}", "a2 01 05 04 4172", 3);
        dueHeader(State::ready, "{\"alg\":\"HS256\",\"kid\":\"\"}", "a2 01 05 04 40", 3);
        dueHeader(State::ready, "{\"alg\":\"HS256\",\"kid\":\"qq\"}", "a2 01 05 04 427171", 3);
        dueHeader(State::ready, "{\"alg\":\"HS256\",\"kid\":\"Q\"}", "a2 01 05 04 4151", 3);
        State.Calls six = x -> {
            for (int i = 0; i < 6; i++) {
                Bench.addKey(x, 0, "k" + i, i == 5 ? SECRET : OTHER);
            }
        };
        dueHeader(six, "{\"alg\":\"HS256\",\"kid\":\"k5\"}", "a2 01 05 04 426b35", 0);
        dueHeader(six, "{\"alg\":\"HS256\",\"kid\":\"k4\"}", "a2 01 05 04 426b34", 5);
        dueHeader(six, "{\"alg\":\"HS256\",\"kid\":\"k6\"}", "a2 01 05 04 426b36", 3);
        dueHeader(six, "{\"alg\":\"HS256\",\"kid\":\"k\"}", "a2 01 05 04 416b", 3);
    }

    private static void notJustOneKey() {
        for (int keys = 0; keys <= 6; keys++) {
            int n = keys;
            State.Calls some = x -> {
                for (int i = 0; i < n; i++) {
                    Bench.addKey(x, 0, "k" + i, SECRET);
                }
            };
            dueHeader(some, "{\"alg\":\"HS256\"}", "a1 01 05", keys == 1 ? 0 : 3);
            dueHeader(some, "{\"alg\":\"HS256\",\"kid\":\"k0\"}", "a2 01 05 04 426b30", keys == 0 ? 3 : 0);
            // Ahead of 4 and 5.
            dueHeader(some, "{\"alg\":\"HS512\"}", "a1 01 07", keys == 1 ? 4 : 3);
        }
        Desk x = new Desk();
        Bench.addKey(x, 0, "q", SECRET);
        Bench.addKey(x, 0, "q", OTHER);
        Bench.due("a KEY that was refused is none", Bench.verify(x, 0, jws("{\"alg\":\"HS256\"}", "{}")), 0);
    }

    private static void anotherAlg() {
        State.Calls both = x -> {
            Bench.addKey(x, 0, "q", SECRET);
            Bench.addKey(x, 1, "r", SECRET);
        };
        String[] json = {"{\"alg\":\"HS256\",\"kid\":\"q\"}", "{\"alg\":\"HS512\",\"kid\":\"q\"}", "{\"alg\":\"HS256\",\"kid\":\"r\"}", "{\"alg\":\"HS512\",\"kid\":\"r\"}"};
        String[] cbor = {"a2 01 05 04 4171", "a2 01 07 04 4171", "a2 01 05 04 4172", "a2 01 07 04 4172"};
        for (int i = 0; i < 4; i++) {
            for (int alg = 0; alg < 2; alg++) {
                int want = i == 1 || i == 2 ? 4 : alg == (i == 0 ? 0 : 1) ? 0 : 5;
                Judge.due(json[i] + " by ALG " + alg, both, 0, Bench.jws(json[i], "{}", alg, SECRET), want);
                Judge.due(cbor[i] + " by ALG " + alg, both, 1, Bench.cose(Bench.hex(cbor[i]), Bench.hex("a0"), alg, SECRET), want);
            }
        }
        dueHeader(State::ready, "{\"alg\":\"HS512\"}", "a1 01 07", 4);
    }

    private static void anotherMac() {
        for (int alg = 0; alg < 2; alg++) {
            int a = alg;
            State.Calls one = x -> Bench.addKey(x, a, "q", SECRET);
            String header = alg == 0 ? Judge.JSON_HEADER : "{\"alg\":\"HS512\",\"kid\":\"q\"}";
            String ahead = Bench.base64(Bench.ascii(header)) + ".e30";
            byte[] mac = Bench.mac(alg, SECRET, Bench.ascii(ahead));
            byte[] token = Bench.cose(Bench.hex(alg == 0 ? Judge.CBOR_HEADER : "a2 01 07 04 4171"), Bench.hex("a0"), alg, SECRET);
            for (int i = 0; i < mac.length; i++) {
                for (int bit : new int[] {1, 128}) {
                    byte[] other = mac.clone();
                    other[i] ^= bit;
                    Judge.due("byte " + i + " of a JWS's MAC", one, 0, Bench.ascii(ahead + "." + Bench.base64(other)), 5);
                    byte[] otherToken = token.clone();
                    otherToken[token.length - 1 - i] ^= bit;
                    Judge.due("byte " + i + " from the end of a COSE's MAC", one, 1, otherToken, 5);
                }
            }
            Judge.due("the MAC", one, 0, Bench.ascii(ahead + "." + Bench.base64(mac)), 0);
            Judge.due("the MAC", one, 1, token, 0);
            Judge.due("another secret's", one, 0, Bench.jws(header, "{}", alg, OTHER), 5);
            // Ahead of 6: CLAIMS that are not as told.
            Judge.due("of strange CLAIMS", one, 0, Bench.jws(header, "{\"exp\":null}", alg, OTHER), 5);
            Judge.due("of strange CLAIMS, but right", one, 0, Bench.jws(header, "{\"exp\":null}", alg, SECRET), 6);
        }
    }

    private static void macLengths() {
        for (int alg = 0; alg < 2; alg++) {
            int a = alg;
            State.Calls one = x -> Bench.addKey(x, a, "q", SECRET);
            String ahead = Bench.base64(Bench.ascii(alg == 0 ? Judge.JSON_HEADER : "{\"alg\":\"HS512\",\"kid\":\"q\"}")) + ".e30";
            byte[] mac = Bench.mac(alg, SECRET, Bench.ascii(ahead));
            byte[] token = Bench.cose(Bench.hex(alg == 0 ? Judge.CBOR_HEADER : "a2 01 07 04 4171"), Bench.hex("a0"), alg, SECRET);
            byte[] coseAhead = Arrays.copyOf(token, token.length - 2 - mac.length);
            byte[] coseMac = Arrays.copyOfRange(token, token.length - mac.length, token.length);
            for (int size : new int[] {0, 1, 16, 20, 31, 32, 33, 48, 63, 64, 65, 128, 256, 1000}) {
                int want = size == mac.length ? 0 : 5;
                Judge.due("a JWS's MAC of " + size, one, 0, Bench.ascii(ahead + "." + Bench.base64(Arrays.copyOf(mac, size))), want);
                Judge.due("a COSE's MAC of " + size, one, 1, Bench.join(coseAhead, Bench.row(Arrays.copyOf(coseMac, size))), want);
            }
            Judge.due("the MAC twice", one, 0, Bench.ascii(ahead + "." + Bench.base64(Bench.join(mac, mac))), 5);
        }
    }

    private static void strangeClaims() {
        String[] names = {"iss", "sub", "aud", "exp", "nbf", "iat"};
        for (int claim = 0; claim < 6; claim++) {
            String key = String.format("%02x", claim + 1);
            due(State::ready, "{\"" + names[claim] + "\":null}", "a1" + key + "f6", 6);
            due(State::ready, "{\"" + names[claim] + "\":{}}", "a1" + key + "a0", 6);
            due(State::ready, "{\"" + names[claim] + "\":true}", "a1" + key + "f5", 6);
            due(State::ready, "{\"" + names[claim] + "\":-1}", "a1" + key + "20", 6);
            due(State::ready, "{\"" + names[claim] + "\":" + (claim < 3 ? "1" : "\"1\"") + "}", "a1" + key + (claim < 3 ? "01" : "6131"), 6);
            due(State::ready, "{\"" + names[claim] + "\":" + (claim < 3 ? "\"1\"" : "0") + "}", "a1" + key + (claim < 3 ? "6131" : "00"),
                    claim == 3 ? 7 : 0);
        }
        // Ahead of 7 to 10, wherever it stands.
        due(VerifyEdges::strict, "{\"exp\":1,\"nbf\":900,\"iat\":null}", "a3 04 01 05 190384 06 f6", 6);
        due(VerifyEdges::strict, "{\"exp\":1,\"nbf\":900,\"iat\":0}", "a3 04 01 05 190384 06 00", 7);
    }

    private static void signsOfAText() {
        for (String[] name : new String[][] {{"iss", "01"}, {"sub", "02"}, {"aud", "03"}}) {
            for (int size : new int[] {199, 200, 201, 202, 255, 256, 500}) {
                due(State::ready, "{\"" + name[0] + "\":" + Judge.quoted("a".repeat(size)) + "}", "a1" + name[1] + Judge.hexText(size), size <= 200 ? 0 : 6);
            }
            // Signs are counted, not the bytes that say them.
            Judge.json("{\"" + name[0] + "\":" + Judge.quoted("\\n".repeat(200)) + "}", 0);
            Judge.json("{\"" + name[0] + "\":" + Judge.quoted("\\n".repeat(201)) + "}", 6);
            Judge.json("{\"" + name[0] + "\":" + Judge.quoted("\\u0061".repeat(150) + "a".repeat(50)) + "}", 0);
            Judge.json("{\"" + name[0] + "\":" + Judge.quoted("\\u0061".repeat(150) + "a".repeat(51)) + "}", 6);
        }
        String two = Judge.quoted("a".repeat(200));
        due(State::ready, "{\"iss\":" + two + ",\"sub\":" + two + ",\"aud\":" + two + "}",
                "a3 01" + Judge.hexText(200) + "02" + Judge.hexText(200) + "03" + Judge.hexText(200), 0);
        due(State::ready, "{\"x\":" + Judge.quoted("a".repeat(700)) + "}", "a1 07" + Judge.hexText(700), 0);
        for (int family = 0; family < 2; family++) {
            Desk x = new Desk();
            State.ready(x);
            Bench.verify(x, family, family == 0 ? jws(Judge.JSON_HEADER, "{\"sub\":" + two + "}") : cose(Judge.CBOR_HEADER, "a1 02" + Judge.hexText(200)));
            Bench.due("all 200 are told", x.has(1), 200);
            for (int i : new int[] {0, 1, 99, 198, 199}) {
                Bench.due("sign " + i, x.sign(1, 0, i), 'a');
            }
            Bench.due("sign 200", x.sign(1, 0, 200), -1);
        }
    }

    private static void signsOfAud() {
        String[] halves = {"a".repeat(100), "b".repeat(100), "c".repeat(101), ""};
        int[][] lists = {{0, 1}, {0, 2}, {0, 1, 3}, {3, 0, 3, 1, 3}, {2, 0}, {0, 0, 3}, {0}, {2}};
        for (int[] list : lists) {
            int signs = 0;
            StringBuilder json = new StringBuilder();
            StringBuilder cbor = new StringBuilder();
            for (int i : list) {
                signs += halves[i].length();
                json.append(json.length() > 0 ? "," : "").append(Judge.quoted(halves[i]));
                cbor.append(Judge.hex(Bench.text(halves[i])));
            }
            due(State::ready, "{\"aud\":[" + json + "]}", "a1 03" + Judge.hex(Bench.head(4, list.length)) + cbor, signs <= 200 ? 0 : 6);
        }
        due(State::ready, "{\"aud\":" + Judge.list(20, Judge.quoted("a".repeat(10))) + "}", "a1 03 94" + Judge.hexText(10).repeat(20), 0);
        due(State::ready, "{\"aud\":" + Judge.list(19, Judge.quoted("a".repeat(10))).replace("[", "[\"" + "b".repeat(11) + "\",") + "}",
                "a1 03 94" + Judge.hexText(11) + Judge.hexText(10).repeat(19), 6);
        due(State::ready, "{\"aud\":[" + Judge.quoted("a".repeat(200)) + ",\"\"]}", "a1 03 82" + Judge.hexText(200) + "60", 0);
        due(State::ready, "{\"aud\":[" + Judge.quoted("a".repeat(200)) + ",\"a\"]}", "a1 03 82" + Judge.hexText(200) + "6161", 6);
        due(State::ready, "{\"aud\":[\"a\"," + Judge.quoted("a".repeat(200)) + "]}", "a1 03 82 6161" + Judge.hexText(200), 6);
    }

    private static void textsOfAud() {
        for (String text : new String[] {"", "a", "abcdefghi"}) {
            for (int n : new int[] {0, 1, 19, 20, 21, 22, 23, 24, 40, 60}) {
                String cbor = "a1 03" + Judge.hex(Bench.head(4, n)) + Judge.hex(Bench.text(text)).repeat(n);
                due(State::ready, "{\"aud\":" + Judge.list(n, Judge.quoted(text)) + "}", cbor, n <= 20 ? 0 : 6);
            }
        }
        due(State::ready, "{\"aud\":" + Judge.list(300, "\"\"") + "}", "a1 03 99012c" + "60".repeat(300), 6);
        due(State::ready, "{\"x\":" + Judge.list(60, "\"\"") + "}", "a1 07 983c" + "60".repeat(60), 0);
        // The AUDIENCE as the last of 20, and as the 21st.
        State.Calls wanted = x -> {
            State.ready(x);
            Bench.put(x, "z");
            x.wants(1);
        };
        due(wanted, "{\"aud\":[" + "\"a\",".repeat(19) + "\"z\"]}", "a1 03 94" + "6161".repeat(19) + "617a", 0);
        due(wanted, "{\"aud\":[" + "\"a\",".repeat(20) + "\"z\"]}", "a1 03 95" + "6161".repeat(20) + "617a", 6);
    }

    private static State.Calls timed(long now, int leeway, boolean exp) {
        return x -> {
            State.ready(x);
            x.now(now);
            x.policy(leeway, exp);
        };
    }

    private static void dueNumber(State.Calls before, String name, int key, long v, int want) {
        due(before, "{\"" + name + "\":" + v + "}", "a1" + String.format("%02x", key) + Judge.hex(Bench.head(0, v)), want);
    }

    private static void expLacks() {
        due(timed(0, 0, false), "{}", "a0", 0);
        due(timed(0, 0, true), "{}", "a0", 7);
        due(timed(0, 600, true), "{}", "a0", 7);
        due(timed(0, 0, true), "{\"EXP\":9,\"x\":{\"exp\":9}}", "a1 07 a1 04 09", 7);
        due(timed(0, 0, true), "{\"exp\":1}", "a1 04 01", 0);
        due(timed(0, 0, true), "{\"exp\":null}", "a1 04 f6", 6);
        due(timed(0, 0, true), "{\"nbf\":1}", "a1 05 01", 7);
    }

    private static void expired() {
        long[][] times = {{0, 0}, {100, 0}, {100, 1}, {100, 99}, {100, 100}, {600, 600}, {1L << 31, 0}, {1L << 32, 600}, {NUMBER_MOST, 1}, {NUMBER_MOST, 600}};
        for (long[] time : times) {
            long edge = time[0] - time[1];
            State.Calls before = timed(time[0], (int) time[1], false);
            dueNumber(before, "exp", 4, edge, 7);
            dueNumber(before, "exp", 4, edge + 1, 0);
            dueNumber(before, "exp", 4, 0, edge >= 0 ? 7 : 0);
            dueNumber(before, "exp", 4, NUMBER_MOST, 0);
        }
        dueNumber(timed(NUMBER_MOST, 0, false), "exp", 4, NUMBER_MOST, 7);
        // NOW less LEEWAY may be below 0: no EXP is so early.
        dueNumber(timed(0, 1, false), "exp", 4, 0, 0);
        dueNumber(timed(599, 600, false), "exp", 4, 0, 0);
        dueNumber(timed(600, 600, false), "exp", 4, 0, 7);
        dueNumber(timed(601, 600, false), "exp", 4, 1, 7);
    }

    private static void early() {
        long[][] times = {{0, 0}, {100, 0}, {100, 1}, {0, 600}, {1L << 31, 0}, {1L << 32, 600}, {NUMBER_MOST - 601, 600}, {NUMBER_MOST - 1, 0}};
        for (long[] time : times) {
            long edge = time[0] + time[1];
            State.Calls before = timed(time[0], (int) time[1], false);
            dueNumber(before, "nbf", 5, edge, 0);
            dueNumber(before, "nbf", 5, edge + 1, 8);
            dueNumber(before, "iat", 6, edge, 0);
            dueNumber(before, "iat", 6, edge + 1, 8);
            dueNumber(before, "nbf", 5, 0, 0);
        }
        dueNumber(timed(NUMBER_MOST, 0, false), "nbf", 5, NUMBER_MOST, 0);
        dueNumber(timed(NUMBER_MOST, 600, false), "iat", 6, NUMBER_MOST, 0);
        dueNumber(timed(NUMBER_MOST - 600, 600, false), "iat", 6, NUMBER_MOST, 0);
        State.Calls before = timed(100, 0, false);
        due(before, "{\"nbf\":100,\"iat\":101}", "a2 05 1864 06 1865", 8);
        due(before, "{\"nbf\":101,\"iat\":100}", "a2 05 1865 06 1864", 8);
        due(before, "{\"nbf\":100,\"iat\":100}", "a2 05 1864 06 1864", 0);
    }

    private static State.Calls wanting(int what, String text) {
        return x -> {
            State.ready(x);
            Bench.put(x, text);
            x.wants(what);
        };
    }

    private static void issuer() {
        State.Calls before = wanting(0, "a\"b");
        due(before, "{\"iss\":\"a\\\"b\"}", "a1 01 63612262", 0);
        Judge.due("in other words", before, 0, jws(Judge.JSON_HEADER, "{\"iss\":\"\\u0061\\u0022\\u0062\"}"), 0);
        due(before, "{}", "a0", 9);
        due(before, "{\"iss\":\"\"}", "a1 01 60", 9);
        due(before, "{\"iss\":\"a\\\"\"}", "a1 01 626122", 9);
        due(before, "{\"iss\":\"a\\\"bb\"}", "a1 01 6461226262", 9);
        due(before, "{\"iss\":\"a\\\"B\"}", "a1 01 63612242", 9);
        due(before, "{\"sub\":\"a\\\"b\",\"aud\":\"a\\\"b\"}", "a2 02 63612262 03 63612262", 9);
        Judge.due("a sign beyond a byte", before, 0, jws(Judge.JSON_HEADER, "{\"iss\":\"\\u0161\\\"b\"}"), 9);
        String forty = "x".repeat(40);
        due(wanting(0, forty), "{\"iss\":" + Judge.quoted(forty) + "}", "a1 01" + Judge.hex(Bench.text(forty)), 0);
        due(wanting(0, forty), "{\"iss\":" + Judge.quoted(forty + "x") + "}", "a1 01" + Judge.hex(Bench.text(forty + "x")), 9);
        due(wanting(0, ""), "{}", "a0", 0);
        due(wanting(0, ""), "{\"iss\":\"x\"}", "a1 01 6178", 0);
    }

    private static void audienceLacks() {
        due(wanting(1, "a"), "{}", "a0", 10);
        due(wanting(1, "a"), "{\"iss\":\"a\",\"sub\":\"a\"}", "a2 01 6161 02 6161", 10);
        due(wanting(1, "a"), "{\"x\":{\"aud\":\"a\"}}", "a1 07 a1 03 6161", 10);
        due(wanting(1, "a"), "{\"aud\":\"a\"}", "a1 03 6161", 0);
        due(wanting(1, ""), "{}", "a0", 0);
    }

    private static void audience() {
        State.Calls before = wanting(1, "ab");
        due(before, "{\"aud\":\"ab\"}", "a1 03 626162", 0);
        due(before, "{\"aud\":\"\"}", "a1 03 60", 10);
        due(before, "{\"aud\":\"a\"}", "a1 03 6161", 10);
        due(before, "{\"aud\":\"abc\"}", "a1 03 63616263", 10);
        due(before, "{\"aud\":\"aB\"}", "a1 03 626142", 10);
        due(before, "{\"aud\":[]}", "a1 03 80", 10);
        due(before, "{\"aud\":[\"ab\"]}", "a1 03 81 626162", 0);
        due(before, "{\"aud\":[\"ab\",\"c\"]}", "a1 03 82 626162 6163", 0);
        due(before, "{\"aud\":[\"c\",\"ab\"]}", "a1 03 82 6163 626162", 0);
        due(before, "{\"aud\":[\"c\",\"ab\",\"d\"]}", "a1 03 83 6163 626162 6164", 0);
        due(before, "{\"aud\":[\"a\",\"b\"]}", "a1 03 82 6161 6162", 10);
        due(before, "{\"aud\":[\"\",\"abc\",\"a\"]}", "a1 03 83 60 63616263 6161", 10);
        due(before, "{\"aud\":[\"c\"],\"x\":[\"ab\"]}", "a2 03 81 6163 07 81 626162", 10);
        due(wanting(1, ""), "{\"aud\":[]}", "a1 03 80", 0);
        due(wanting(1, ""), "{\"aud\":[\"c\"]}", "a1 03 81 6163", 0);
    }

    private static void policyOrder() {
        // Each of 7 to 10 holds or not: the first that does not is told.
        for (int wrong = 0; wrong < 16; wrong++) {
            int exp = (wrong & 1) != 0 ? 100 : 101;
            int nbf = (wrong & 2) != 0 ? 101 : 100;
            String iss = (wrong & 4) != 0 ? "x" : "i";
            String aud = (wrong & 8) != 0 ? "x" : "a";
            int want = wrong == 0 ? 0 : 7 + Integer.numberOfTrailingZeros(wrong);
            due(VerifyEdges::strict, "{\"aud\":\"" + aud + "\",\"iss\":\"" + iss + "\",\"iat\":" + nbf + ",\"exp\":" + exp + "}",
                    "a4 01" + Judge.hex(Bench.text(iss)) + "03" + Judge.hex(Bench.text(aud)) + "04" + Judge.hex(Bench.head(0, exp)) + "06"
                    + Judge.hex(Bench.head(0, nbf)), want);
        }
    }
}
