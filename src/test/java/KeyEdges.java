/** The boundary cases of the terms' I and of promise 4. */
final class KeyEdges {
    private static final int LEAST = Integer.MIN_VALUE;
    private static final int MOST = Integer.MAX_VALUE;
    private static final byte[] SECRET = State.SECRET;

    private KeyEdges() {
    }

    static void all() {
        Edges.edge("I", "KEYS, 6 at most", KeyEdges::sixKeys);
        Edges.edge("I", "KID (1 to 8 bytes", KeyEdges::kidSizes);
        Edges.edge("I", "32 .. 126", KeyEdges::kidBytes);
        Edges.edge("I", "unlike", KeyEdges::unlike);
        Edges.edge("I", "ALG (0 SHA-256, 1 SHA-512)", KeyEdges::algs);
        Edges.edge("I", "a secret of 1 to 64 bytes", KeyEdges::secretSizes);
        Edges.edge("I", "CLAIMS: texts ISS (0), SUB (1), AUD (2), numbers EXP (3), NBF (4), IAT (5)", KeyEdges::claimNumbers);
        Edges.edge("I", "0 to 2^53", KeyEdges::claimValues);
        Edges.edge("I", "MAC of bytes by a key: HMAC of its ALG: 32 or 64 bytes", KeyEdges::macs);
        Edges.edge("4", "A KEY more: the TAPE (which is empty then) has n bytes of its KID, then its secret. Its number", KeyEdges::keyMore);
        Edges.edge("4", "NONE, and the TAPE is empty all the same, if something is not as I tells", KeyEdges::refused);
        Edges.edge("4", "or there are 6", KeyEdges::seventh);
    }

    private static State.Calls fed(String kid, byte[] secret) {
        return State.fed(Bench.join(Bench.ascii(kid), secret));
    }

    /** key(alg, n) is refused on a new desk and on a busy one. */
    private static void dueRefused(String what, State.Calls tape, int alg, int n) {
        State.dueEmptied(what, tape, x -> x.key(alg, n), -1);
        State.dueEmptied(what + ", of a busy desk", State.then(State::busy, tape), x -> x.key(alg, n), -1);
    }

    /** The KEY is taken, and names and signs what is ISSUED by it. */
    private static void dueTaken(String what, String kid, int alg, byte[] secret) {
        Desk x = new Desk();
        Bench.addKey(x, 1 - alg, "other", Bench.ascii("x"));
        fed(kid, secret).on(x);
        Bench.due(what, x.key(alg, kid.length()), 1);
        Bench.due(what + ": KEYS", x.count(5), 2);
        Bench.due(what + ": the TAPE", x.count(6), 0);
        byte[] header = Bench.join(Bench.hex(alg == 0 ? "a2 01 05 04" : "a2 01 07 04"), Bench.row(Bench.ascii(kid)));
        byte[] want = Bench.cose(header, Bench.hex("a0"), alg, secret);
        Bench.due(what + ": issue(1, 1)", x.issue(1, 1), want.length);
        Bench.dueOut(what, x, want);
        Bench.due(what + ": its token", Bench.verify(x, 1, want), 0);
        Bench.due(what + ": its number", x.count(0), 1);
    }

    private static void sixKeys(Desk x) {
        for (int i = 0; i < 6; i++) {
            Bench.addKey(x, i % 2, "k" + i, Bench.ascii("secret " + i));
        }
    }

    private static void sixKeys() {
        Desk x = new Desk();
        for (int i = 0; i < 6; i++) {
            Bench.due("KEY " + i, Bench.addKey(x, i % 2, "k" + i, Bench.ascii("secret " + i)), i);
            Bench.due("KEYS", x.count(5), i + 1);
        }
        Bench.due("a seventh", Bench.addKey(x, 0, "new", SECRET), -1);
        Bench.due("KEYS then", x.count(5), 6);
        for (int i = 0; i < 6; i++) {
            String header = "{\"alg\":\"" + (i % 2 == 0 ? "HS256" : "HS512") + "\",\"kid\":\"k" + i + "\"}";
            x.issue(0, i);
            Bench.dueOutOnTape("KEY " + i, x, Bench.jws(header, "{}", i % 2, Bench.ascii("secret " + i)));
            Bench.due("its token", x.verify(0), 0);
            Bench.due("its number", x.count(0), i);
        }
        Bench.due("issue by a seventh", x.issue(0, 6), -1);
    }

    private static void kidSizes() {
        dueRefused("a KID of no bytes", fed("", SECRET), 0, 0);
        dueTaken("a KID of one byte", "1", 0, SECRET);
        dueTaken("a KID of 8 bytes", "12345678", 0, SECRET);
        dueRefused("a KID of 9 bytes", fed("123456789", SECRET), 0, 9);
        for (int n : new int[] {-1, -8, LEAST, MOST, 1500, 7}) {
            dueRefused("key(0, " + n + ")", fed("123", Bench.ascii("456")), 0, n);
        }
        dueRefused("no TAPE", State::fresh, 0, 1);
        dueRefused("no TAPE, no KID", State::fresh, 0, 0);
    }

    private static void kidBytes() {
        for (int b = 0; b < 256; b++) {
            boolean plain = b >= 32 && b <= 126;
            for (String kid : new String[] {"" + (char) b, (char) b + "2345678", "1234567" + (char) b, "a" + (char) b + "c"}) {
                Desk x = new Desk();
                Bench.due("byte " + b + " in a KID of " + kid.length(), Bench.addKey(x, 0, kid, SECRET), plain ? 0 : -1);
                Bench.due("KEYS", x.count(5), plain ? 1 : 0);
                Bench.due("the TAPE", x.count(6), 0);
            }
            Desk y = new Desk();
            Bench.due("byte " + b + " behind the KID", Bench.addKey(y, 0, "12345678", new byte[] {(byte) b}), 0);
        }
        dueTaken("byte 32", " ", 0, SECRET);
        dueTaken("byte 126", "~", 1, SECRET);
        dueRefused("byte 31", fed("\u001f", SECRET), 0, 1);
        dueRefused("byte 127", fed("1234567\u007f", SECRET), 0, 8);
        dueRefused("byte 128", fed("\u0080", SECRET), 0, 1);
        dueRefused("byte 255", fed("\u00ff", SECRET), 0, 1);
        dueRefused("byte 0", fed("\u0000", SECRET), 0, 1);
    }

    private static void unlike() {
        State.Calls two = x -> {
            Bench.addKey(x, 0, "12345678", SECRET);
            Bench.addKey(x, 1, "a", SECRET);
        };
        State.dueEmptied("the first's KID", State.then(two, fed("12345678", SECRET)), x -> x.key(0, 8), -1);
        State.dueEmptied("with another ALG", State.then(two, fed("12345678", SECRET)), x -> x.key(1, 8), -1);
        State.dueEmptied("with another secret", State.then(two, fed("12345678", Bench.ascii("else"))), x -> x.key(0, 8), -1);
        State.dueEmptied("the second's KID", State.then(two, fed("a", Bench.ascii("else"))), x -> x.key(0, 1), -1);
        for (String kid : new String[] {"1234567", "1", "1234567 ", "2345678", "A", "aa", "b", " a", "a "}) {
            Desk x = new Desk();
            two.on(x);
            Bench.due("a KID like '" + kid + "'", Bench.addKey(x, 0, kid, SECRET), 2);
            Bench.due("it again", Bench.addKey(x, 0, kid, SECRET), -1);
            Bench.due("KEYS", x.count(5), 3);
        }
        Desk x = new Desk();
        two.on(x);
        Bench.put(x, "12345678secret");
        Bench.due("its bytes, but fewer of them KID", x.key(0, 7), 2);
    }

    private static void algs() {
        for (int alg : new int[] {LEAST, -2, -1, 2, 3, 5, 7, 256, MOST}) {
            dueRefused("ALG " + alg, fed("kid", SECRET), alg, 3);
        }
        dueTaken("ALG 0", "kid", 0, SECRET);
        dueTaken("ALG 1", "kid", 1, SECRET);
    }

    private static void secretSizes() {
        for (String kid : new String[] {"1", "12345678"}) {
            dueRefused("a secret of no bytes", fed(kid, new byte[0]), 0, kid.length());
            dueRefused("a secret of 65 bytes", fed(kid, new byte[65]), 1, kid.length());
            dueRefused("a secret of all the TAPE", fed(kid, new byte[1500 - kid.length()]), 0, kid.length());
            for (int alg = 0; alg < 2; alg++) {
                dueTaken("a secret of one byte", kid, alg, new byte[] {(byte) 255});
                byte[] secret = new byte[64];
                secret[0] = 1;
                secret[63] = (byte) 128;
                dueTaken("a secret of 64 bytes", kid, alg, secret);
                dueTaken("a secret of 63 bytes", kid, alg, java.util.Arrays.copyOf(secret, 63));
            }
        }
    }

    private static void claimNumbers() {
        String[] want = {"{\"iss\":\"t\"}", "{\"sub\":\"t\"}", "{\"aud\":\"t\"}", "{\"exp\":7}", "{\"nbf\":7}", "{\"iat\":7}"};
        for (int claim = -1; claim <= 6; claim++) {
            Desk x = new Desk();
            Bench.addKey(x, 0, "q", SECRET);
            Bench.put(x, "t");
            Bench.due("text(" + claim + ")", x.text(claim), claim >= 0 && claim <= 2 ? 1 : -1);
            Bench.due("number(" + claim + ", 7)", x.number(claim, 7), claim >= 3 && claim <= 5);
            x.issue(0, 0);
            String payload = claim < 0 || claim > 5 ? "{}" : want[claim];
            Bench.dueOut("claim " + claim, x, Bench.jws("{\"alg\":\"HS256\",\"kid\":\"q\"}", payload, 0, SECRET));
        }
    }

    private static void claimValues() {
        for (int claim = 3; claim < 6; claim++) {
            String name = claim == 3 ? "exp" : claim == 4 ? "nbf" : "iat";
            for (long v : new long[] {Long.MIN_VALUE, -(1L << 53), -1, 0, 1, (1L << 53) - 1, 1L << 53, (1L << 53) + 1, Long.MAX_VALUE}) {
                boolean taken = v >= 0 && v <= 1L << 53;
                Desk x = new Desk();
                Bench.addKey(x, 0, "q", SECRET);
                Bench.due("number(" + claim + ", " + v + ")", x.number(claim, v), taken);
                x.issue(0, 0);
                String payload = taken ? "{\"" + name + "\":" + v + "}" : "{}";
                Bench.dueOut("the number " + v, x, Bench.jws("{\"alg\":\"HS256\",\"kid\":\"q\"}", payload, 0, SECRET));
            }
        }
    }

    private static void macs() {
        for (int alg = 0; alg < 2; alg++) {
            Desk x = new Desk();
            Bench.addKey(x, alg, "q", SECRET);
            int size = x.issue(1, 0);
            int macSize = alg == 0 ? 32 : 64;
            Bench.due("the MAC's head", x.octet(size - macSize - 2), 0x58);
            Bench.due("the MAC's size", x.octet(size - macSize - 1), macSize);
            byte[] out = Bench.out(x);
            byte[] secured = Bench.join(Bench.hex("84 64 4d414330 46 a2 01"), Bench.hex(alg == 0 ? "05" : "07"), Bench.hex("04 4171 40 41a0"));
            byte[] want = Bench.mac(alg, SECRET, secured);
            for (int i = 0; i < macSize; i++) {
                Bench.due("byte " + i + " of the MAC of ALG " + alg, out[size - macSize + i], want[i]);
            }
        }
        // HMAC's own test vectors (RFC 4231, test cases 1 and 2) as keys of tokens, against the Java library's HMAC.
        dueTaken("RFC 4231's first secret", "kid", 0, Bench.hex("0b".repeat(20)));
        dueTaken("RFC 4231's first secret, SHA-512", "kid", 1, Bench.hex("0b".repeat(20)));
        dueTaken("RFC 4231's second secret", "kid", 0, Bench.ascii("Jefe"));
        dueTaken("RFC 4231's second secret, SHA-512", "kid", 1, Bench.ascii("Jefe"));
    }

    private static void keyMore() {
        byte[] six = Bench.ascii("abcdef");
        for (int n = 1; n <= 5; n++) {
            Desk x = new Desk();
            Bench.put(x, six);
            Bench.due("key(0, " + n + ") of 6 bytes", x.key(0, n), 0);
            Bench.due("the TAPE", x.count(6), 0);
            x.issue(0, 0);
            String kid = "abcdef".substring(0, n);
            Bench.dueOut("KID " + kid, x, Bench.jws("{\"alg\":\"HS256\",\"kid\":\"" + kid + "\"}", "{}", 0, Bench.ascii("abcdef".substring(n))));
        }
        Desk x = new Desk();
        State.busy(x);
        Bench.put(x, six);
        int[] counts = new int[8];
        for (int what = 0; what < 8; what++) {
            counts[what] = x.count(what);
        }
        counts[5]++;
        counts[6] = 0;
        Bench.due("its number on a busy desk", x.key(1, 3), 2);
        for (int what = 0; what < 8; what++) {
            Bench.due("count(" + what + ") then", x.count(what), counts[what]);
        }
        Bench.put(x, "ghi");
        Bench.dueTape("what comes to the TAPE then", x, Bench.ascii("ghi"));
    }

    private static void refused() {
        State.Calls good = fed("kid", SECRET);
        dueRefused("ALG 2", good, 2, 3);
        dueRefused("ALG -1", good, -1, 3);
        dueRefused("no KID", good, 0, 0);
        dueRefused("a KID and no secret", good, 0, 9);
        dueRefused("more KID than TAPE", good, 0, 10);
        dueRefused("a KID of -1", good, 0, -1);
        dueRefused("a KID that is not plain", fed("k\nd", SECRET), 0, 3);
        dueRefused("a secret too long", fed("kid", new byte[65]), 0, 3);
        dueRefused("nothing as told", fed("\u00ff".repeat(100), SECRET), 9, 99);
        State.dueEmptied("a KID that a KEY has", State.then(State::busy, fed("q", SECRET)), x -> x.key(0, 1), -1);
        State.dueEmptied("a KID that the second KEY has", State.then(State::busy, fed("second", SECRET)), x -> x.key(1, 6), -1);
    }

    private static void seventh() {
        State.Calls six = KeyEdges::sixKeys;
        State.dueEmptied("a seventh", State.then(six, fed("new", SECRET)), x -> x.key(0, 3), -1);
        State.dueEmptied("a seventh with nothing as told", State.then(six, fed("k0", SECRET)), x -> x.key(7, 99), -1);
        State.dueEmptied("a seventh of no TAPE", six, x -> x.key(0, 1), -1);
        Desk x = new Desk();
        for (int i = 0; i < 5; i++) {
            Bench.addKey(x, 0, "k" + i, SECRET);
        }
        Bench.due("one that is refused takes no place", Bench.addKey(x, 0, "k4", SECRET), -1);
        Bench.due("a sixth", Bench.addKey(x, 0, "k5", SECRET), 5);
        Bench.due("a seventh", Bench.addKey(x, 0, "k6", SECRET), -1);
    }
}
