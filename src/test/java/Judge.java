/** Tokens put to verify() on desks that are ready for them, with all that a token's verdict changes and leaves. */
final class Judge {
    static final int JWS = 0;
    static final int COSE = 1;
    static final byte[] SECRET = State.SECRET;
    static final String JSON_HEADER = "{\"alg\":\"HS256\",\"kid\":\"q\"}";
    static final String CBOR_HEADER = "a2 01 05 04 4171";

    private Judge() {
    }

    /** A token that is ACCEPTED is counted and told of; one that is refused is counted, and all else stays; the TAPE is empty. */
    static void due(String what, State.Calls before, int family, byte[] token, int want) {
        State.Calls fed = State.then(before, State.fed(token));
        Desk x = new Desk();
        fed.on(x);
        int accepted = x.count(2);
        int refused = x.count(3);
        Bench.due(what, x.verify(family), want);
        Bench.due(what + ": the TAPE", x.count(6), 0);
        Bench.due(what + ": ACCEPTED", x.count(2), accepted + (want == 0 ? 1 : 0));
        Bench.due(what + ": refused", x.count(3), refused + (want == 0 ? 0 : 1));
        if (want != 0) {
            // An empty TAPE is no token of any family: what it leaves is what each refusal leaves.
            State.same(what, State.then(fed, y -> y.verify(family)), State.then(before, y -> y.verify(0)));
        }
    }

    static void token(int family, byte[] token, int want) {
        due((family == JWS ? "the JWS " : "the COSE ") + shown(family, token), State::ready, family, token, want);
    }

    private static String shown(int family, byte[] token) {
        return family == JWS ? new String(token, java.nio.charset.StandardCharsets.ISO_8859_1) : java.util.HexFormat.of().formatHex(token);
    }

    static void jwsText(String token, int want) {
        token(JWS, Bench.ascii(token), want);
    }

    static void json(String header, String payload, int want) {
        due("HEADER " + header + " PAYLOAD " + payload, State::ready, JWS, Bench.jws(header, payload, 0, SECRET), want);
    }

    static void json(String payload, int want) {
        json(JSON_HEADER, payload, want);
    }

    static void jsonHeader(String header, int want) {
        json(header, "{}", want);
    }

    static void coseHex(String token, int want) {
        token(COSE, Bench.hex(token), want);
    }

    static void cbor(String header, String payload, int want) {
        due("HEADER " + header + " PAYLOAD " + payload, State::ready, COSE, Bench.cose(Bench.hex(header), Bench.hex(payload), 0, SECRET), want);
    }

    static void cbor(String payload, int want) {
        cbor(CBOR_HEADER, payload, want);
    }

    static void cborHeader(String header, int want) {
        cbor(header, "a0", want);
    }

    /** An item that means nothing, as the value of a key that means nothing, in PAYLOAD and in HEADER. */
    static void cborItem(String item, int want) {
        cbor("a1 07" + item, want);
        cborHeader("a3 01 05 04 4171 07" + item, want);
    }

    static String hex(byte[] bytes) {
        return java.util.HexFormat.of().formatHex(bytes);
    }

    static String hexText(int size) {
        return hex(Bench.text("a".repeat(size)));
    }

    static String quoted(String text) {
        return "\"" + text + "\"";
    }

    /** A JSON array of so many of the same. */
    static String list(int n, String item) {
        return "[" + (n == 0 ? "" : (item + ",").repeat(n - 1) + item) + "]";
    }
}
