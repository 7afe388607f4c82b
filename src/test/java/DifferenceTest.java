import java.math.BigInteger;
import java.util.Arrays;
import java.util.List;
import java.util.Random;

/** Tokens at random, whole and spoilt, VERIFIED by the desk and by the Reference: both answer the same. */
public final class DifferenceTest {
    private static final String[] CLAIMS = {"iss", "sub", "aud", "exp", "nbf", "iat"};
    private static final int[] reasons = new int[11];
    private static final Random random = new Random(20261116);

    public static void main(String[] args) {
        for (int round = 0; round < 3000; round++) {
            round(round);
        }
        System.out.println("reasons 0 to 10: " + Arrays.toString(reasons));
        for (int reason = 0; reason <= 10; reason++) {
            Bench.due("reason " + reason + " came often", reasons[reason] >= 100, true);
        }
        wildCalls();
        Bench.close();
    }

    private static boolean chance(int percent) {
        return random.nextInt(100) < percent;
    }

    private static <T> T oneOf(List<T> list) {
        return list.get(random.nextInt(list.size()));
    }

    private static void round(int round) {
        Desk x = new Desk();
        Reference r = new Reference();
        int keys = random.nextInt(4);
        for (int i = 0; i < keys; i++) {
            byte[] secret = new byte[1 + random.nextInt(64)];
            random.nextBytes(secret);
            String kid = oneOf(List.of("a", "b", "\"", "kid\\", "12345678"));
            int alg = random.nextInt(2);
            if (Bench.addKey(x, alg, kid, secret) >= 0) {
                r.keys.add(new Reference.Key(alg, kid, secret));
            }
        }
        Bench.due("KEYS", x.count(5), r.keys.size());
        setPolicy(x, r);
        for (int i = 0; i < 12 && x.callsLeft() > 250; i++) {
            int family = random.nextInt(2);
            byte[] token = family == 0 ? jws(r) : cose(r);
            if (token.length > 1500) {
                continue;
            }
            int want = r.verify(family, token);
            reasons[want]++;
            String what = "round " + round + ", family " + family + ", token "
                    + (family == 0 ? new String(token, java.nio.charset.StandardCharsets.ISO_8859_1) : java.util.HexFormat.of().formatHex(token));
            Bench.due(what, Bench.verify(x, family, token), want);
            dueAccepted(what, x, r);
        }
    }

    private static void setPolicy(Desk x, Reference r) {
        r.now = random.nextInt(30);
        x.now(r.now);
        r.leeway = random.nextInt(4);
        r.expWanted = chance(15);
        x.policy((int) r.leeway, r.expWanted);
        if (chance(25)) {
            Bench.put(x, "i");
            x.wants(0);
            r.issuer = "i";
        }
        if (chance(25)) {
            Bench.put(x, "b");
            x.wants(1);
            r.audience = "b";
        }
    }

    private static void dueAccepted(String what, Desk x, Reference r) {
        if (r.body == null) {
            Bench.due(what + ": none yet", x.count(0), -1);
            return;
        }
        Bench.due(what + ": count(0)", x.count(0), r.key);
        List<?> aud = Reference.audiences(r.body);
        Bench.due(what + ": count(1)", x.count(1), aud.size());
        for (int claim = 0; claim < 6; claim++) {
            Object value = r.body.get(CLAIMS[claim]);
            boolean there = r.body.containsKey(CLAIMS[claim]);
            Object first = claim != 2 ? value : aud.isEmpty() ? "" : aud.get(0);
            Bench.due(what + ": has(" + claim + ")", x.has(claim), !there ? -1 : claim > 2 ? 1 : ((String) first).length());
            Bench.due(what + ": claim(" + claim + ")", x.claim(claim), there && claim > 2 ? ((BigInteger) value).longValueExact() : -1);
            if (there && claim < 2) {
                dueSigns(what, x, claim, random.nextInt(3), (String) value);
            }
        }
        for (int k = 0; k < aud.size(); k++) {
            dueSigns(what, x, 2, k, (String) aud.get(k));
        }
        Bench.due(what + ": no more of AUD", x.sign(2, aud.size(), 0), -1);
    }

    private static void dueSigns(String what, Desk x, int claim, int k, String text) {
        // Of a long text some signs must do: a desk has 512 calls.
        for (int i = 0; i <= text.length(); i += i < 3 || i > text.length() - 3 ? 1 : text.length() - 5) {
            Bench.due(what + ": sign " + claim, x.sign(claim, k, i), i < text.length() ? text.charAt(i) : -1);
        }
    }

    private static byte[] spoilt(byte[] bytes) {
        if (!chance(25)) {
            return bytes;
        }
        int at = random.nextInt(bytes.length + 1);
        byte[] ahead = Arrays.copyOf(bytes, at);
        byte[] behind = Arrays.copyOfRange(bytes, chance(50) ? at : Math.min(at + 1, bytes.length), bytes.length);
        byte[] between = new byte[random.nextInt(2)];
        for (int i = 0; i < between.length; i++) {
            between[i] = (byte) (chance(60) && bytes.length > 0 ? bytes[random.nextInt(bytes.length)] : chance(50) ? random.nextInt(256)
                    : "\" \\{}[]:,0-.eE+utrn\t\n".charAt(random.nextInt(20)));
        }
        return Bench.join(ahead, between, behind);
    }

    private static Reference.Key anyKey(Reference r) {
        return r.keys.isEmpty() || chance(3) ? new Reference.Key(random.nextInt(2), "none", Bench.ascii("x")) : oneOf(r.keys);
    }

    // JSON

    private static byte[] jws(Reference r) {
        Reference.Key key = anyKey(r);
        int alg = chance(5) ? 1 - key.alg() : key.alg();
        StringBuilder header = new StringBuilder("{");
        addMember(header, 97, "alg", chance(95) ? string(alg == 0 ? "HS256" : "HS512") : json(2));
        addMember(header, 80, "kid", chance(95) ? string(key.kid()) : json(2));
        addMember(header, 2, "crit", json(2));
        addMember(header, 10, "alg2", json(2));
        StringBuilder payload = new StringBuilder("{");
        for (int claim = 0; claim < 6; claim++) {
            addMember(payload, 3, oneOf(List.of("x", "", "exP", "au\\u0064", "\\n", "iss")), json(2));
            addMember(payload, 50, CLAIMS[claim], jsonClaim(claim));
        }
        byte[] head = spoilt(Bench.ascii(header + blank() + "}" + blank()));
        byte[] body = spoilt(Bench.ascii(payload + "}" + blank()));
        byte[] token = Bench.jws(head, body, alg, chance(97) ? key.secret() : Bench.ascii("else"));
        return chance(80) ? token : spoilt(token);
    }

    private static void addMember(StringBuilder to, int percent, String name, String value) {
        if (chance(percent)) {
            to.append(to.length() > 1 ? "," : "").append(blank()).append('"').append(name).append('"').append(blank()).append(':')
                    .append(blank()).append(value).append(blank());
        }
    }

    private static String blank() {
        return chance(85) ? "" : oneOf(List.of(" ", "\t", "\n", "\r", "  "));
    }

    private static String jsonClaim(int claim) {
        if (chance(4)) {
            return json(2);
        }
        if (claim > 2) {
            int number = claim == 3 ? 15 + random.nextInt(40) : random.nextInt(20);
            return chance(90) ? "" + number : oneOf(List.of("-0", "9007199254740992", "9007199254740993", "1.0", "1e1", "-1"));
        }
        if (claim == 2 && chance(50)) {
            StringBuilder list = new StringBuilder("[" + blank());
            int n = chance(90) ? random.nextInt(4) : 19 + random.nextInt(3);
            for (int i = 0; i < n; i++) {
                list.append(i > 0 ? "," : "").append(blank()).append(chance(98) ? string(oneOf(List.of("a", "b", "", "bb"))) : json(3)).append(blank());
            }
            return list + "]";
        }
        return string(chance(90) ? oneOf(List.of("i", "b", "", "ib", "\"")) : "l".repeat(199 + random.nextInt(3)));
    }

    private static String string(String text) {
        StringBuilder to = new StringBuilder("\"");
        for (char c : text.toCharArray()) {
            if (chance(5)) {
                to.append(String.format(chance(50) ? "\\u%04x" : "\\u%04X", (int) c));
            } else {
                to.append(c == '"' || c == '\\' ? "\\" : "").append(c);
            }
        }
        return to.append(chance(97) ? "" : oneOf(List.of("\\n", "\\/", "\\uD8ff", "\\u00e9", "~", " "))).append('"').toString();
    }

    private static String json(int around) {
        int kind = random.nextInt(around > 9 ? 6 : 9);
        if (kind < 6) {
            return oneOf(List.of("true", "false", "null", "0", "-1.5e+3", "\"text\\u0041\"", "12345678901234567890", "{}", "[]"));
        }
        StringBuilder to = new StringBuilder(kind == 6 ? "{" : "[");
        int n = random.nextInt(4);
        for (int i = 0; i < n; i++) {
            to.append(i > 0 ? "," : "").append(blank());
            to.append(kind == 6 ? "\"" + (char) ('a' + random.nextInt(chance(80) ? 26 : 2)) + "\"" + blank() + ":" : "").append(blank());
            to.append(json(around + 1)).append(blank());
        }
        String deep = chance(5) ? "[".repeat(7) + "]".repeat(7) : "";
        return kind != 6 && n == 0 ? to + deep + "]" : to + (kind == 6 ? "}" : "]");
    }

    // CBOR

    private static byte[] cose(Reference r) {
        Reference.Key key = anyKey(r);
        int alg = chance(5) ? 1 - key.alg() : key.alg();
        byte[] kid = chance(95) ? Bench.row(Bench.ascii(key.kid())) : cbor(2);
        byte[][] header = new byte[4][];
        header[0] = pair(97, 1, chance(95) ? new byte[] {(byte) (alg == 0 ? 5 : 7)} : cbor(2));
        header[1] = pair(2, 2, cbor(2));
        header[2] = pair(80, 4, kid);
        header[3] = pair(10, 30, cbor(2));
        byte[][] payload = new byte[8][];
        payload[0] = pair(5, 0, cbor(2));
        for (int claim = 0; claim < 6; claim++) {
            payload[claim + 1] = pair(50, claim + 1, cborClaim(claim));
        }
        payload[7] = chance(10) ? Bench.join(chance(70) ? cbor(6) : Bench.head(0, random.nextInt(40)), cbor(2)) : null;
        byte[] token = Bench.cose(spoilt(map(header)), spoilt(map(payload)), alg, chance(97) ? key.secret() : Bench.ascii("else"));
        return chance(80) ? token : spoilt(token);
    }

    private static byte[] pair(int percent, int key, byte[] value) {
        return chance(percent) ? Bench.join(Bench.head(0, key), value) : null;
    }

    private static byte[] map(byte[][] pairs) {
        byte[] all = new byte[0];
        int n = 0;
        for (byte[] pair : pairs) {
            n += pair == null ? 0 : 1;
            all = pair == null ? all : Bench.join(all, pair);
        }
        return Bench.join(Bench.head(5, n), all);
    }

    private static byte[] cborClaim(int claim) {
        if (chance(4)) {
            return cbor(2);
        }
        if (claim > 2) {
            int number = claim == 3 ? 15 + random.nextInt(40) : random.nextInt(20);
            return chance(90) ? Bench.head(0, number) : chance(50) ? Bench.head(random.nextInt(2), random.nextInt(5))
                    : Bench.head(random.nextInt(2), (1L << 53) - 1 + random.nextInt(3));
        }
        if (claim == 2 && chance(50)) {
            int n = chance(90) ? random.nextInt(4) : 19 + random.nextInt(3);
            byte[] list = Bench.head(4, n);
            for (int i = 0; i < n; i++) {
                list = Bench.join(list, chance(98) ? Bench.text(oneOf(List.of("a", "b", "", "bb"))) : cbor(3));
            }
            return list;
        }
        return Bench.text(chance(90) ? oneOf(List.of("i", "b", "", "ib", "\"")) : "l".repeat(199 + random.nextInt(3)));
    }

    private static byte[] cbor(int around) {
        int kind = random.nextInt(around > 9 ? 6 : 9);
        if (kind < 6) {
            List<String> some = List.of("f4", "f5", "f6", "00", "20", "17", "1818", "40", "60", "6161", "420001", "1bffffffffffffffff",
                    "3b0020000000000000", "80", "a0", "f7", "1817", "a10000", "190100", "a2 0000 2000", "a2 2000 0000", "8181818181818180");
            return Bench.hex(oneOf(some));
        }
        int n = random.nextInt(4);
        byte[] all = Bench.head(kind == 6 ? 5 : 4, n);
        int key = 0;
        for (int i = 0; i < n; i++) {
            key += random.nextInt(chance(90) ? 30 : 2) + (chance(95) ? 1 : 0);
            all = Bench.join(all, kind == 6 ? Bench.head(key < 100 ? 0 : 1, key) : new byte[0], cbor(around + 1));
        }
        return all;
    }

    /** No call throws, whatever its arguments, in whatever state. */
    private static void wildCalls() {
        for (int run = 0; run < 400; run++) {
            Desk x = new Desk();
            while (x.callsLeft() > 10) {
                wildCall(x);
            }
            Bench.due("the TAPE holds", x.count(6) >= 0 && x.count(6) <= 1500, true);
            Bench.due("KEYS hold", x.count(5) >= 0 && x.count(5) <= 6, true);
        }
    }

    private static int wild() {
        return chance(70) ? random.nextInt(10) - 2 : chance(50) ? random.nextInt() : oneOf(List.of(Integer.MIN_VALUE, Integer.MAX_VALUE, 1500, 600, 40));
    }

    private static void wildCall(Desk x) {
        int a = wild();
        int b = wild();
        switch (random.nextInt(19)) {
            case 0: x.end(a); break;
            case 1: x.key(a, b); break;
            case 2: x.text(a); break;
            case 3: x.number(a, chance(50) ? b : random.nextLong()); break;
            case 4: x.unset(a); break;
            case 5: x.issue(random.nextInt(3), b); break;
            case 6: x.octet(a); break;
            case 7: x.back(a, b); break;
            case 8: x.back(0, x.count(7)); break;
            case 9: x.now(chance(50) ? a : random.nextLong()); break;
            case 10: x.policy(a, chance(50)); break;
            case 11: x.wants(a); break;
            case 12: x.verify(random.nextInt(3)); break;
            case 13: x.has(a); break;
            case 14: x.sign(a, b, wild()); break;
            case 15: x.claim(a); break;
            case 16: x.count(a); break;
            case 17: x.hash(a, b); break;
            default:
                int plain = 0x20202020 + random.nextInt(0x50);
                x.feed(plain, chance(80) ? plain : random.nextInt(), plain, chance(90) ? plain : random.nextInt(), plain);
                break;
        }
    }
}
