import java.io.ByteArrayOutputStream;
import java.math.BigInteger;
import java.nio.charset.StandardCharsets;
import java.util.ArrayList;
import java.util.Arrays;
import java.util.Base64;
import java.util.LinkedHashMap;
import java.util.List;
import java.util.Map;
import java.util.TreeMap;
import java.util.regex.Matcher;
import java.util.regex.Pattern;

/**
 * A second VERIFIED (Terms II, III, V), written another way than the desk's: trees of library objects, JSON by regular
 * expressions, CBOR by writing what was read once more and comparing the bytes. A form that does not hold throws Bad.
 */
final class Reference {
    static final class Bad extends RuntimeException {
        private static final long serialVersionUID = 1;
    }

    /** A bytes' row of CBOR. */
    record Bytes(String latin) {
    }

    /** A number that is no INTEGER, or another thing that no claim may be. */
    record Odd(String what) {
    }

    record Key(int alg, String kid, byte[] secret) {
    }

    static final BigInteger MOST = BigInteger.ONE.shiftLeft(53);

    final List<Key> keys = new ArrayList<>();
    long now;
    long leeway;
    boolean expWanted;
    String issuer;
    String audience;
    int key;
    Map<Object, Object> body;

    int verify(int family, byte[] token) {
        try {
            return family == 0 ? jws(token) : cose(token);
        } catch (Bad e) {
            return 1;
        }
    }

    private int jws(byte[] token) {
        String[] parts = latin(token).split("\\.", -1);
        if (parts.length != 3) {
            throw new Bad();
        }
        byte[] header = base64(parts[0]);
        byte[] payload = base64(parts[1]);
        byte[] mac = base64(parts[2]);
        Map<Object, Object> head = json(latin(header));
        Map<Object, Object> claims = json(latin(payload));
        Object alg = head.get("alg");
        int number = "HS256".equals(alg) ? 0 : "HS512".equals(alg) ? 1 : -1;
        return refusal(head, "kid", "crit", number, claims, mac, Bench.ascii(parts[0] + "." + parts[1]));
    }

    private int refusal(Map<Object, Object> head, Object kidName, Object critName, int alg, Map<Object, Object> claims, byte[] mac,
            byte[] secured) {
        if (alg < 0 || head.containsKey(critName)) {
            return 2;
        }
        int found = -1;
        for (int i = 0; i < keys.size(); i++) {
            Object want = kidName instanceof String ? keys.get(i).kid() : new Bytes(keys.get(i).kid());
            if (head.containsKey(kidName) ? want.equals(head.get(kidName)) : keys.size() == 1) {
                found = i;
            }
        }
        if (found < 0) {
            return 3;
        }
        if (keys.get(found).alg() != alg) {
            return 4;
        }
        if (!Arrays.equals(mac, Bench.mac(alg, keys.get(found).secret(), secured))) {
            return 5;
        }
        int reason = claimsRefusal(claims);
        if (reason == 0) {
            key = found;
            body = claims;
        }
        return reason;
    }

    private static boolean isText(Object text) {
        return text instanceof String && ((String) text).length() <= 200;
    }

    static List<?> audiences(Map<Object, Object> claims) {
        Object aud = claims.get("aud");
        return aud instanceof List ? (List<?>) aud : claims.containsKey("aud") ? Arrays.asList(aud) : List.of();
    }

    private int claimsRefusal(Map<Object, Object> claims) {
        for (String name : new String[] {"iss", "sub"}) {
            if (claims.containsKey(name) && !isText(claims.get(name))) {
                return 6;
            }
        }
        StringBuilder all = new StringBuilder();
        for (Object one : audiences(claims)) {
            if (!isText(one)) {
                return 6;
            }
            all.append(one);
        }
        if (audiences(claims).size() > 20 || all.length() > 200) {
            return 6;
        }
        for (String name : new String[] {"exp", "nbf", "iat"}) {
            Object number = claims.get(name);
            if (claims.containsKey(name) && !(number instanceof BigInteger && ((BigInteger) number).signum() >= 0)) {
                return 6;
            }
        }
        BigInteger exp = (BigInteger) claims.get("exp");
        if (exp == null && expWanted || exp != null && exp.longValueExact() + leeway <= now) {
            return 7;
        }
        for (String name : new String[] {"nbf", "iat"}) {
            BigInteger number = (BigInteger) claims.get(name);
            if (number != null && number.longValueExact() - leeway > now) {
                return 8;
            }
        }
        if (issuer != null && !issuer.equals(claims.get("iss"))) {
            return 9;
        }
        return audience != null && !audiences(claims).contains(audience) ? 10 : 0;
    }

    private static String latin(byte[] bytes) {
        return new String(bytes, StandardCharsets.ISO_8859_1);
    }

    private static byte[] base64(String part) {
        if (!part.matches("[A-Za-z0-9_-]*")) {
            throw new Bad();
        }
        try {
            byte[] bytes = Base64.getUrlDecoder().decode(part);
            if (!Bench.base64(bytes).equals(part)) {
                throw new Bad();
            }
            return bytes;
        } catch (IllegalArgumentException e) {
            throw new Bad();
        }
    }

    // JSON

    private static final Pattern STRING = Pattern.compile("\"((?:[ !#-\\[\\]-~]|\\\\[\"\\\\/bfnrt]|\\\\u[0-9a-fA-F]{4})*+)\"");
    private static final Pattern NUMBER = Pattern.compile("-?(?:0|[1-9][0-9]*+)((?:\\.[0-9]++)?+(?:[eE][+-]?[0-9]++)?+)");
    private static final Pattern BLANKS = Pattern.compile("[\\t\\n\\r ]*+");

    private String text;
    private int at;

    private Map<Object, Object> json(String source) {
        text = source;
        at = 0;
        take(BLANKS);
        if (!text.startsWith("{", at)) {
            throw new Bad();
        }
        Object value = value(0);
        if (at != text.length()) {
            throw new Bad();
        }
        @SuppressWarnings("unchecked")
        Map<Object, Object> map = (Map<Object, Object>) value;
        return map;
    }

    private Matcher take(Pattern pattern) {
        Matcher m = pattern.matcher(text).region(at, text.length());
        if (!m.lookingAt()) {
            return null;
        }
        at = m.end();
        return m;
    }

    private boolean takes(String word) {
        take(BLANKS);
        boolean there = text.startsWith(word, at);
        at += there ? word.length() : 0;
        return there;
    }

    private void must(String word) {
        if (!takes(word)) {
            throw new Bad();
        }
    }

    private Object value(int around) {
        take(BLANKS);
        Object value = bare(around);
        take(BLANKS);
        return value;
    }

    private Object bare(int around) {
        boolean object = takes("{");
        if (object || takes("[")) {
            if (around == 8) {
                throw new Bad();
            }
            return object ? members(around + 1) : elements(around + 1);
        }
        for (String word : new String[] {"true", "false", "null"}) {
            if (takes(word)) {
                return new Odd(word);
            }
        }
        Matcher number = take(NUMBER);
        if (number != null) {
            boolean whole = number.group(1).isEmpty();
            BigInteger v = whole ? new BigInteger(number.group()) : null;
            return whole && v.abs().compareTo(MOST) <= 0 ? v : new Odd(number.group());
        }
        return string();
    }

    private String string() {
        Matcher m = take(STRING);
        if (m == null) {
            throw new Bad();
        }
        Matcher escapes = Pattern.compile("\\\\(u(....)|.)").matcher(m.group(1));
        return escapes.replaceAll(e -> {
            String sign = e.group(2) != null ? "" + (char) Integer.parseInt(e.group(2), 16) : e.group(1);
            int known = e.group(2) != null ? -1 : "bfnrt".indexOf(sign);
            return Matcher.quoteReplacement(known < 0 ? sign : "" + "\b\f\n\r\t".charAt(known));
        });
    }

    private Map<Object, Object> members(int around) {
        Map<Object, Object> map = new LinkedHashMap<>();
        if (takes("}")) {
            return map;
        }
        do {
            take(BLANKS);
            String name = string();
            must(":");
            if (map.containsKey(name)) {
                throw new Bad();
            }
            map.put(name, value(around));
        } while (takes(","));
        must("}");
        return map;
    }

    private List<Object> elements(int around) {
        List<Object> list = new ArrayList<>();
        if (takes("]")) {
            return list;
        }
        do {
            list.add(value(around));
        } while (takes(","));
        must("]");
        return list;
    }

    // CBOR: read leniently (any head), written again strictly

    private byte[] cbor;
    private int next;

    private int cose(byte[] token) {
        cbor = token;
        next = 0;
        if (take() != 0xd1 || take() != 0x84) {
            throw new Bad();
        }
        byte[] header = bytesRow();
        if (take() != 0xa0) {
            throw new Bad();
        }
        byte[] payload = bytesRow();
        byte[] mac = bytesRow();
        byte[] again = Bench.join(Bench.hex("d184"), Bench.row(header), Bench.hex("a0"), Bench.row(payload), Bench.row(mac));
        if (!Arrays.equals(token, again)) {
            throw new Bad();
        }
        Map<Object, Object> head = map(header);
        Map<Object, Object> claims = new LinkedHashMap<>();
        String[] names = {"iss", "sub", "aud", "exp", "nbf", "iat"};
        for (Map.Entry<Object, Object> e : map(payload).entrySet()) {
            for (int i = 0; i < 6; i++) {
                if (e.getKey().equals(BigInteger.valueOf(i + 1))) {
                    claims.put(names[i], e.getValue());
                }
            }
        }
        Object alg = head.get(BigInteger.ONE);
        int number = BigInteger.valueOf(5).equals(alg) ? 0 : BigInteger.valueOf(7).equals(alg) ? 1 : -1;
        byte[] secured = Bench.join(Bench.hex("84 64 4d414330"), Bench.row(header), Bench.hex("40"), Bench.row(payload));
        return refusal(head, BigInteger.valueOf(4), BigInteger.valueOf(2), number, claims, mac, secured);
    }

    private int take() {
        if (next >= cbor.length) {
            throw new Bad();
        }
        return cbor[next++] & 255;
    }

    private byte[] take(BigInteger n) {
        if (n.compareTo(BigInteger.valueOf(cbor.length - next)) > 0) {
            throw new Bad();
        }
        next += n.intValue();
        return Arrays.copyOfRange(cbor, next - n.intValue(), next);
    }

    private BigInteger argument(int info) {
        if (info < 24) {
            return BigInteger.valueOf(info);
        }
        if (info > 27) {
            throw new Bad();
        }
        return new BigInteger(1, take(BigInteger.valueOf(1L << (info - 24))));
    }

    private byte[] bytesRow() {
        int first = take();
        if (first >> 5 != 2) {
            throw new Bad();
        }
        return take(argument(first & 31));
    }

    private Map<Object, Object> map(byte[] bytes) {
        cbor = bytes;
        next = 0;
        ByteArrayOutputStream again = new ByteArrayOutputStream();
        Object item = item(0, again);
        if (!(item instanceof Map) || !Arrays.equals(again.toByteArray(), bytes)) {
            throw new Bad();
        }
        @SuppressWarnings("unchecked")
        Map<Object, Object> map = (Map<Object, Object>) item;
        return map;
    }

    private Object item(int around, ByteArrayOutputStream again) {
        int first = take();
        if (first >= 0xf4 && first <= 0xf6) {
            again.write(first);
            return new Odd("simple " + first);
        }
        int type = first >> 5;
        BigInteger n = argument(first & 31);
        if (type > 5 || type > 3 && around == 8 || type > 1 && n.compareTo(BigInteger.valueOf(cbor.length)) > 0) {
            throw new Bad();
        }
        int size = n.bitLength() > 32 ? 8 : n.bitLength() > 16 ? 4 : n.bitLength() > 8 ? 2 : n.intValue() >= 24 ? 1 : 0;
        again.write(type << 5 | (size == 0 ? n.intValue() : 24 + Integer.numberOfTrailingZeros(size)));
        for (int i = size - 1; i >= 0; i--) {
            again.write(n.shiftRight(8 * i).intValue());
        }
        if (type < 2) {
            BigInteger v = type == 0 ? n : n.not();
            return v.abs().compareTo(MOST) <= 0 ? v : new Odd(v.toString());
        }
        if (type < 4) {
            byte[] bytes = take(n);
            again.writeBytes(bytes);
            String latin = latin(bytes);
            if (type == 3 && !latin.matches("[ -~]*")) {
                throw new Bad();
            }
            return type == 3 ? latin : new Bytes(latin);
        }
        return type == 4 ? list(n.intValue(), around + 1, again) : pairs(n.intValue(), around + 1, again);
    }

    private List<Object> list(int n, int around, ByteArrayOutputStream again) {
        List<Object> list = new ArrayList<>();
        for (int i = 0; i < n; i++) {
            list.add(item(around, again));
        }
        return list;
    }

    private Map<Object, Object> pairs(int n, int around, ByteArrayOutputStream again) {
        Map<Object, Object> map = new LinkedHashMap<>();
        TreeMap<byte[], byte[]> sorted = new TreeMap<>(Arrays::compareUnsigned);
        for (int i = 0; i < n; i++) {
            ByteArrayOutputStream key = new ByteArrayOutputStream();
            ByteArrayOutputStream value = new ByteArrayOutputStream();
            Object name = item(around, key);
            map.put(name, item(around, value));
            sorted.put(key.toByteArray(), value.toByteArray());
        }
        for (Map.Entry<byte[], byte[]> e : sorted.entrySet()) {
            again.writeBytes(e.getKey());
            again.writeBytes(e.getValue());
        }
        return map;
    }
}
