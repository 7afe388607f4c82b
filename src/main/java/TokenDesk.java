/**
 * A desk that issues and verifies JSON Web Tokens (JWS compact) and CBOR Web Tokens (COSE_Mac0) by HMAC
 * of SHA-256 and SHA-512.
 *
 * Every row is made together with the desk and used again: no call makes an object.
 */
public final class TokenDesk {
    public static final int NONE = -1;

    private static final int JWS = 0;
    private static final int COSE = 1;

    private static final int ISS = 0;
    private static final int SUB = 1;
    private static final int AUD = 2;
    private static final int EXP = 3;
    private static final int NBF = 4;
    private static final int IAT = 5;
    private static final int CLAIMS = 6;

    private static final int TAPE_MOST = 1500;
    /** Above the longest token that can be ISSUED: a JWS of 592 bytes. */
    private static final int OUT_MOST = 640;
    private static final int KEYS_MOST = 6;
    private static final int KID_MOST = 8;
    private static final int SECRET_MOST = 64;
    private static final int TEXT_MOST = 40;
    private static final int LEEWAY_MOST = 600;
    private static final long NUMBER_MOST = 1L << 53;
    /** How many objects, arrays and maps may stand within one another, the outermost one counted. */
    private static final int DEPTH_MOST = 8;

    private final Row tape = new Row(TAPE_MOST);
    private final Row out = new Row(OUT_MOST);
    private final Row part = new Row(TAPE_MOST);
    private final Key[] keys = new Key[KEYS_MOST];
    private final Sha sha256 = new Sha256();
    private final Sha sha512 = new Sha512();
    private final Claims claims = new Claims();
    private final Policy policy = new Policy();
    private final Token token = new Token(tape, part);
    private Members accepted = new Members();
    private int acceptedKey = NONE;
    private int keyCount;
    private int acceptedCount;
    private int refusedCount;
    private int issuedCount;
    private int hashedAlg = NONE;
    private int hashedState;
    private final byte[] hashed = new byte[Sha.DIGEST_MOST];

    public TokenDesk() {
        for (int i = 0; i < KEYS_MOST; i++) {
            keys[i] = new Key();
        }
    }

    public int feed(int a, int b, int c, int d, int e) {
        if (!tape.hasRoom(20)) {
            return NONE;
        }
        tape.addBytes(a, 4);
        tape.addBytes(b, 4);
        tape.addBytes(c, 4);
        tape.addBytes(d, 4);
        tape.addBytes(e, 4);
        return tape.size;
    }

    public int end(int n) {
        if (n < 0 || n > tape.size) {
            return NONE;
        }
        tape.cut(n);
        return n;
    }

    public int key(int alg, int n) {
        boolean taken = keyCount < KEYS_MOST && (alg == 0 || alg == 1) && isNewKey(n);
        if (taken) {
            Key fresh = keys[keyCount];
            fresh.alg = alg;
            fresh.kid.copy(tape, 0, n);
            fresh.secret.copy(tape, n, tape.size);
            keyCount++;
        }
        tape.cut(0);
        return taken ? keyCount - 1 : NONE;
    }

    public int text(int claim) {
        boolean taken = claim >= ISS && claim <= AUD && tape.isShortText();
        int size = tape.size;
        if (taken) {
            claims.setText(claim, tape);
        }
        tape.cut(0);
        return taken ? size : NONE;
    }

    public boolean number(int claim, long v) {
        if (claim < EXP || claim > IAT || v < 0 || v > NUMBER_MOST) {
            return false;
        }
        claims.setNumber(claim, v);
        return true;
    }

    public int unset(int claim) {
        if (claim < 0 || claim >= CLAIMS) {
            return NONE;
        }
        int was = claims.isSet[claim] ? 1 : 0;
        claims.isSet[claim] = false;
        return was;
    }

    public int issue(int family, int key) {
        if ((family != JWS && family != COSE) || key < 0 || key >= keyCount) {
            return NONE;
        }
        if (family == JWS) {
            writeJws(keys[key]);
        } else {
            writeCose(keys[key]);
        }
        issuedCount++;
        return out.size;
    }

    public int octet(int i) {
        return out.at(i);
    }

    public int back(int i, int n) {
        if (i < 0 || n < 0 || n > out.size || i > out.size - n || !tape.hasRoom(n)) {
            return NONE;
        }
        tape.addRange(out, i, i + n);
        return tape.size;
    }

    public boolean now(long t) {
        if (t < 0 || t > NUMBER_MOST) {
            return false;
        }
        policy.time = t;
        return true;
    }

    public boolean policy(int leeway, boolean exp) {
        if (leeway < 0 || leeway > LEEWAY_MOST) {
            return false;
        }
        policy.leeway = leeway;
        policy.expWanted = exp;
        return true;
    }

    public int wants(int what) {
        boolean taken = (what == 0 || what == 1) && tape.isShortText();
        int size = tape.size;
        if (taken) {
            Row wanted = what == 0 ? policy.issuer : policy.audience;
            wanted.copy(tape, 0, size);
        }
        tape.cut(0);
        return taken ? size : NONE;
    }

    public int verify(int family) {
        if (family != JWS && family != COSE) {
            return NONE;
        }
        boolean formed = family == JWS ? token.readsJws() : token.readsCose();
        int key = formed ? namedKey(family) : NONE;
        int reason = formed ? refusal(family, key) : 1;
        tape.cut(0);
        if (reason == 0) {
            accept(key);
        } else {
            refusedCount++;
        }
        return reason;
    }

    public int has(int claim) {
        return accepted.extentOf(claim);
    }

    public int sign(int claim, int k, int i) {
        return accepted.signOf(claim, k, i);
    }

    public long claim(int claim) {
        return accepted.integerOf(claim);
    }

    public int count(int what) {
        switch (what) {
            case 0: return acceptedKey;
            case 1: return acceptedKey == NONE ? NONE : accepted.parts;
            case 2: return acceptedCount;
            case 3: return refusedCount;
            case 4: return issuedCount;
            case 5: return keyCount;
            case 6: return tape.size;
            case 7: return out.size;
            default: return NONE;
        }
    }

    public int hash(int alg, int i) {
        if (alg != 0 && alg != 1) {
            return NONE;
        }
        Sha sha = shaOf(alg);
        if (i < 0 || i >= sha.digestSize) {
            return NONE;
        }
        // A hash is asked for byte by byte: it is reckoned anew only when the TAPE is another one.
        if (alg != hashedAlg || tape.state != hashedState) {
            sha.start();
            sha.addRange(tape, 0, tape.size);
            sha.finish();
            System.arraycopy(sha.digest, 0, hashed, 0, sha.digestSize);
            hashedAlg = alg;
            hashedState = tape.state;
        }
        return hashed[i] & 255;
    }

    private Sha shaOf(int alg) {
        return alg == 0 ? sha256 : sha512;
    }

    /** Whether the TAPE is n bytes of a KID that no KEY has, and a secret. */
    private boolean isNewKey(int n) {
        if (n < 1 || n > KID_MOST || n > tape.size || !tape.isPlain(n)) {
            return false;
        }
        int secret = tape.size - n;
        if (secret < 1 || secret > SECRET_MOST) {
            return false;
        }
        for (int i = 0; i < keyCount; i++) {
            if (keys[i].kid.startsLike(tape, n)) {
                return false;
            }
        }
        return true;
    }

    private void writeJws(Key key) {
        part.cut(0);
        key.writeJson(part);
        out.cut(0);
        out.addBase64(part);
        out.add('.');
        part.cut(0);
        claims.writeJson(part);
        out.addBase64(part);
        Sha mac = macOf(JWS, key, out, 0, out.size);
        out.add('.');
        part.cut(0);
        mac.writeDigest(part);
        out.addBase64(part);
    }

    private void writeCose(Key key) {
        out.cut(0);
        out.addBytes(0xd184, 2);
        part.cut(0);
        key.writeCbor(part);
        out.addCborRow(2, part);
        int headerEnd = out.size;
        out.add(0xa0);
        part.cut(0);
        claims.writeCbor(part);
        out.addCborRow(2, part);
        Sha mac = macOf(COSE, key, out, headerEnd, out.size);
        part.cut(0);
        mac.writeDigest(part);
        out.addCborRow(2, part);
    }

    /** The hash that holds a token's MAC (HMAC, RFC 2104); a JWS has no use for headerEnd. */
    private Sha macOf(int family, Key key, Row row, int headerEnd, int payloadEnd) {
        Sha sha = shaOf(key.alg);
        sha.start();
        key.addMasked(sha, 0x36);
        if (family == JWS) {
            sha.addRange(row, 0, payloadEnd);
        } else {
            sha.add(0x84);
            sha.add(0x64);
            sha.addWord("MAC0");
            sha.addRange(row, 2, headerEnd);
            sha.add(0x40);
            sha.addRange(row, headerEnd + 1, payloadEnd);
        }
        sha.finish();
        sha.start();
        key.addMasked(sha, 0x5c);
        sha.addDigest();
        sha.finish();
        return sha;
    }

    /** The number of the KEY that the token's HEADER names, or of the only one if it names none. */
    private int namedKey(int family) {
        Members head = token.head;
        int kind = head.kindOf(Members.KID);
        if (kind == Members.NOTHING) {
            return keyCount == 1 ? 0 : NONE;
        }
        if (kind != (family == JWS ? Members.TEXT : Members.BYTES)) {
            return NONE;
        }
        for (int i = 0; i < keyCount; i++) {
            if (head.isRow(Members.KID, keys[i].kid)) {
                return i;
            }
        }
        return NONE;
    }

    /** Why a token that is well formed is refused, or 0: the document's questions 2 to 10. */
    private int refusal(int family, int key) {
        int alg = family == JWS ? token.jwsAlg() : token.coseAlg();
        if (alg == NONE || token.head.kindOf(Members.CRIT) != Members.NOTHING) {
            return 2;
        }
        if (key < 0 || key >= keyCount) {
            return 3;
        }
        if (keys[key].alg != alg) {
            return 4;
        }
        Sha mac = macOf(family, keys[key], tape, token.headerEnd, token.payloadEnd);
        if (!mac.gave(part)) {
            return 5;
        }
        return token.body.areClaims() ? policy.refusal(token.body) : 6;
    }

    private void accept(int key) {
        Members older = accepted;
        accepted = token.body;
        token.body = older;
        acceptedKey = key;
        acceptedCount++;
    }

    private static String nameOf(int claim) {
        switch (claim) {
            case ISS: return "iss";
            case SUB: return "sub";
            case AUD: return "aud";
            case EXP: return "exp";
            case NBF: return "nbf";
            default: return "iat";
        }
    }

    /** A row of bytes that has room for so many; what would go beyond its room is left out. */
    private static final class Row {
        private static final String LETTERS = "ABCDEFGHIJKLMNOPQRSTUVWXYZabcdefghijklmnopqrstuvwxyz0123456789-_";

        private final byte[] bytes;
        private int size;
        /** Another number after each change, so that what was reckoned of the row can be known as stale. */
        private int state;

        Row(int most) {
            bytes = new byte[Math.max(most, 0)];
        }

        int at(int i) {
            return i >= 0 && i < size ? bytes[i] & 255 : NONE;
        }

        boolean hasRoom(int n) {
            return n <= bytes.length - size;
        }

        void add(int b) {
            if (size < bytes.length) {
                bytes[size] = (byte) b;
                size++;
                state++;
            }
        }

        void addBytes(long v, int n) {
            for (int shift = 8 * (n - 1); shift >= 0; shift -= 8) {
                add((int) (v >>> shift));
            }
        }

        void addRange(Row other, int from, int to) {
            for (int i = from; i < to; i++) {
                add(other.at(i));
            }
        }

        void addWord(String word) {
            for (int i = 0; i < word.length(); i++) {
                add(word.charAt(i));
            }
        }

        void cut(int n) {
            if (n >= 0 && n < size) {
                size = n;
                state++;
            }
        }

        void copy(Row other, int from, int to) {
            cut(0);
            addRange(other, from, to);
        }

        int indexOf(int b, int from) {
            for (int i = from; i < size; i++) {
                if (at(i) == b) {
                    return i;
                }
            }
            return NONE;
        }

        boolean isPlain(int n) {
            for (int i = 0; i < n; i++) {
                if (at(i) < 32 || at(i) > 126) {
                    return false;
                }
            }
            return true;
        }

        boolean isShortText() {
            return size <= TEXT_MOST && isPlain(size);
        }

        /** Whether this row is the first n bytes of the other. */
        boolean startsLike(Row other, int n) {
            if (size != n) {
                return false;
            }
            for (int i = 0; i < n; i++) {
                if (at(i) != other.at(i)) {
                    return false;
                }
            }
            return true;
        }

        void addQuoted(Row text) {
            add('"');
            for (int i = 0; i < text.size; i++) {
                int b = text.at(i);
                if (b == '"' || b == '\\') {
                    add('\\');
                }
                add(b);
            }
            add('"');
        }

        void addDecimal(long v) {
            long unit = 1;
            for (int i = 0; i < 18 && v / unit >= 10; i++) {
                unit *= 10;
            }
            for (long u = unit; u > 0; u /= 10) {
                add('0' + (int) (v / u % 10));
            }
        }

        void addCborHead(int type, long v) {
            int high = type << 5;
            if (v < 24) {
                add(high | (int) v);
            } else if (v < 1L << 8) {
                add(high | 24);
                addBytes(v, 1);
            } else if (v < 1L << 16) {
                add(high | 25);
                addBytes(v, 2);
            } else if (v < 1L << 32) {
                add(high | 26);
                addBytes(v, 4);
            } else {
                add(high | 27);
                addBytes(v, 8);
            }
        }

        void addCborRow(int type, Row row) {
            addCborHead(type, row.size);
            addRange(row, 0, row.size);
        }

        void addBase64(Row row) {
            int held = 0;
            int bits = 0;
            for (int i = 0; i < row.size; i++) {
                held = (held << 8 | row.at(i)) & 0xffff;
                bits += 8;
                for (; bits >= 6; bits -= 6) {
                    add(LETTERS.charAt(held >> (bits - 6) & 63));
                }
            }
            if (bits > 0) {
                add(LETTERS.charAt(held << (6 - bits) & 63));
            }
        }

        /** Becomes what a stretch of the other row says in BASE64URL; false if it is none. */
        boolean decodes(Row text, int from, int to) {
            cut(0);
            int held = 0;
            int bits = 0;
            for (int i = from; i < to; i++) {
                int six = sixBits(text.at(i));
                if (six == NONE) {
                    return false;
                }
                held = held << 6 | six;
                bits += 6;
                if (bits >= 8) {
                    bits -= 8;
                    add(held >> bits);
                    held &= (1 << bits) - 1;
                }
            }
            return bits < 6 && held == 0;
        }

        private static int sixBits(int letter) {
            if (letter >= 'A' && letter <= 'Z') {
                return letter - 'A';
            }
            if (letter >= 'a' && letter <= 'z') {
                return letter - 'a' + 26;
            }
            if (letter >= '0' && letter <= '9') {
                return letter - '0' + 52;
            }
            return letter == '-' ? 62 : letter == '_' ? 63 : NONE;
        }
    }

    /** A hash that takes its bytes one by one (FIPS 180-4). */
    private abstract static class Sha {
        static final int DIGEST_MOST = 64;

        /**
         * SHA-512's constants: the first 64 bits behind the point of the square roots of the first primes and of
         * their cube roots. SHA-256 takes the first 32 bits of the same numbers, so one table serves both.
         */
        static final long[] SQUARE_ROOTS = {
            0x6a09e667f3bcc908L, 0xbb67ae8584caa73bL, 0x3c6ef372fe94f82bL,
            0xa54ff53a5f1d36f1L, 0x510e527fade682d1L, 0x9b05688c2b3e6c1fL,
            0x1f83d9abfb41bd6bL, 0x5be0cd19137e2179L,
        };
        static final long[] CUBE_ROOTS = {
            0x428a2f98d728ae22L, 0x7137449123ef65cdL, 0xb5c0fbcfec4d3b2fL,
            0xe9b5dba58189dbbcL, 0x3956c25bf348b538L, 0x59f111f1b605d019L,
            0x923f82a4af194f9bL, 0xab1c5ed5da6d8118L, 0xd807aa98a3030242L,
            0x12835b0145706fbeL, 0x243185be4ee4b28cL, 0x550c7dc3d5ffb4e2L,
            0x72be5d74f27b896fL, 0x80deb1fe3b1696b1L, 0x9bdc06a725c71235L,
            0xc19bf174cf692694L, 0xe49b69c19ef14ad2L, 0xefbe4786384f25e3L,
            0x0fc19dc68b8cd5b5L, 0x240ca1cc77ac9c65L, 0x2de92c6f592b0275L,
            0x4a7484aa6ea6e483L, 0x5cb0a9dcbd41fbd4L, 0x76f988da831153b5L,
            0x983e5152ee66dfabL, 0xa831c66d2db43210L, 0xb00327c898fb213fL,
            0xbf597fc7beef0ee4L, 0xc6e00bf33da88fc2L, 0xd5a79147930aa725L,
            0x06ca6351e003826fL, 0x142929670a0e6e70L, 0x27b70a8546d22ffcL,
            0x2e1b21385c26c926L, 0x4d2c6dfc5ac42aedL, 0x53380d139d95b3dfL,
            0x650a73548baf63deL, 0x766a0abb3c77b2a8L, 0x81c2c92e47edaee6L,
            0x92722c851482353bL, 0xa2bfe8a14cf10364L, 0xa81a664bbc423001L,
            0xc24b8b70d0f89791L, 0xc76c51a30654be30L, 0xd192e819d6ef5218L,
            0xd69906245565a910L, 0xf40e35855771202aL, 0x106aa07032bbd1b8L,
            0x19a4c116b8d2d0c8L, 0x1e376c085141ab53L, 0x2748774cdf8eeb99L,
            0x34b0bcb5e19b48a8L, 0x391c0cb3c5c95a63L, 0x4ed8aa4ae3418acbL,
            0x5b9cca4f7763e373L, 0x682e6ff3d6b2b8a3L, 0x748f82ee5defb2fcL,
            0x78a5636f43172f60L, 0x84c87814a1f0ab72L, 0x8cc702081a6439ecL,
            0x90befffa23631e28L, 0xa4506cebde82bde9L, 0xbef9a3f7b2c67915L,
            0xc67178f2e372532bL, 0xca273eceea26619cL, 0xd186b8c721c0c207L,
            0xeada7dd6cde0eb1eL, 0xf57d4f7fee6ed178L, 0x06f067aa72176fbaL,
            0x0a637dc5a2c898a6L, 0x113f9804bef90daeL, 0x1b710b35131c471bL,
            0x28db77f523047d84L, 0x32caab7b40c72493L, 0x3c9ebe0a15c9bebcL,
            0x431d67c49c100d4cL, 0x4cc5d4becb3e42b6L, 0x597f299cfc657e2aL,
            0x5fcb6fab3ad6faecL, 0x6c44198c4a475817L,
        };

        final int blockSize;
        final int digestSize;
        final byte[] block;
        /** Stays as it is until the next finish(): an HMAC's outer hash reads it while it goes on. */
        final byte[] digest;
        private int filled;
        private long total;

        Sha(int blockSize) {
            this.blockSize = blockSize;
            this.digestSize = blockSize / 2;
            this.block = new byte[blockSize];
            this.digest = new byte[blockSize / 2];
        }

        abstract void resetState();

        abstract void mixBlock();

        abstract int stateByte(int i);

        void start() {
            filled = 0;
            total = 0;
            resetState();
        }

        void add(int b) {
            block[filled] = (byte) b;
            filled++;
            total++;
            if (filled == blockSize) {
                mixBlock();
                filled = 0;
            }
        }

        void addRange(Row row, int from, int to) {
            for (int i = from; i < to; i++) {
                add(row.at(i));
            }
        }

        void addWord(String word) {
            for (int i = 0; i < word.length(); i++) {
                add(word.charAt(i));
            }
        }

        void addDigest() {
            for (int i = 0; i < digestSize; i++) {
                add(digest[i]);
            }
        }

        void finish() {
            long bits = total * 8;
            // The length takes an eighth of a block; 64 bits of it are enough here, and end it.
            int zerosEnd = blockSize - blockSize / 8;
            add(0x80);
            for (int i = 0; i < blockSize && filled != zerosEnd; i++) {
                add(0);
            }
            for (int i = zerosEnd; i < blockSize - 8; i++) {
                add(0);
            }
            for (int shift = 56; shift >= 0; shift -= 8) {
                add((int) (bits >>> shift));
            }
            for (int i = 0; i < digestSize; i++) {
                digest[i] = (byte) stateByte(i);
            }
        }

        boolean gave(Row row) {
            if (row.size != digestSize) {
                return false;
            }
            for (int i = 0; i < digestSize; i++) {
                if (row.at(i) != (digest[i] & 255)) {
                    return false;
                }
            }
            return true;
        }

        void writeDigest(Row to) {
            for (int i = 0; i < digestSize; i++) {
                to.add(digest[i]);
            }
        }
    }

    private static final class Sha256 extends Sha {
        private final int[] state = new int[8];
        private final int[] plan = new int[64];

        Sha256() {
            super(64);
        }

        void resetState() {
            for (int i = 0; i < 8; i++) {
                state[i] = (int) (SQUARE_ROOTS[i] >>> 32);
            }
        }

        int stateByte(int i) {
            return state[i / 4] >>> (24 - 8 * (i % 4));
        }

        private static int turn(int x, int n) {
            return x >>> n | x << (32 - n);
        }

        private void makePlan() {
            for (int t = 0; t < 16; t++) {
                int at = 4 * t;
                plan[t] = (block[at] & 255) << 24 | (block[at + 1] & 255) << 16
                        | (block[at + 2] & 255) << 8 | block[at + 3] & 255;
            }
            for (int t = 16; t < 64; t++) {
                int x = plan[t - 15];
                int y = plan[t - 2];
                plan[t] = plan[t - 16] + (turn(x, 7) ^ turn(x, 18) ^ x >>> 3)
                        + plan[t - 7] + (turn(y, 17) ^ turn(y, 19) ^ y >>> 10);
            }
        }

        void mixBlock() {
            makePlan();
            int a = state[0];
            int b = state[1];
            int c = state[2];
            int d = state[3];
            int e = state[4];
            int f = state[5];
            int g = state[6];
            int h = state[7];
            for (int t = 0; t < 64; t++) {
                int one = h + (turn(e, 6) ^ turn(e, 11) ^ turn(e, 25)) + (e & f ^ ~e & g)
                        + (int) (CUBE_ROOTS[t] >>> 32) + plan[t];
                int two = (turn(a, 2) ^ turn(a, 13) ^ turn(a, 22)) + (a & b ^ a & c ^ b & c);
                h = g;
                g = f;
                f = e;
                e = d + one;
                d = c;
                c = b;
                b = a;
                a = one + two;
            }
            state[0] += a;
            state[1] += b;
            state[2] += c;
            state[3] += d;
            state[4] += e;
            state[5] += f;
            state[6] += g;
            state[7] += h;
        }
    }

    private static final class Sha512 extends Sha {
        private final long[] state = new long[8];
        private final long[] plan = new long[80];

        Sha512() {
            super(128);
        }

        void resetState() {
            for (int i = 0; i < 8; i++) {
                state[i] = SQUARE_ROOTS[i];
            }
        }

        int stateByte(int i) {
            return (int) (state[i / 8] >>> (56 - 8 * (i % 8)));
        }

        private static long turn(long x, int n) {
            return x >>> n | x << (64 - n);
        }

        private void makePlan() {
            for (int t = 0; t < 16; t++) {
                long word = 0;
                for (int i = 0; i < 8; i++) {
                    word = word << 8 | block[8 * t + i] & 255;
                }
                plan[t] = word;
            }
            for (int t = 16; t < 80; t++) {
                long x = plan[t - 15];
                long y = plan[t - 2];
                plan[t] = plan[t - 16] + (turn(x, 1) ^ turn(x, 8) ^ x >>> 7)
                        + plan[t - 7] + (turn(y, 19) ^ turn(y, 61) ^ y >>> 6);
            }
        }

        void mixBlock() {
            makePlan();
            long a = state[0];
            long b = state[1];
            long c = state[2];
            long d = state[3];
            long e = state[4];
            long f = state[5];
            long g = state[6];
            long h = state[7];
            for (int t = 0; t < 80; t++) {
                long one = h + (turn(e, 14) ^ turn(e, 18) ^ turn(e, 41)) + (e & f ^ ~e & g)
                        + CUBE_ROOTS[t] + plan[t];
                long two = (turn(a, 28) ^ turn(a, 34) ^ turn(a, 39)) + (a & b ^ a & c ^ b & c);
                h = g;
                g = f;
                f = e;
                e = d + one;
                d = c;
                c = b;
                b = a;
                a = one + two;
            }
            state[0] += a;
            state[1] += b;
            state[2] += c;
            state[3] += d;
            state[4] += e;
            state[5] += f;
            state[6] += g;
            state[7] += h;
        }
    }

    /** A KEY, and what a token's HEADER says of it. */
    private static final class Key {
        private int alg;
        private final Row kid = new Row(KID_MOST);
        private final Row secret = new Row(SECRET_MOST);

        /** The block ahead of an HMAC's inner or outer hash. No secret is longer than it, so none is hashed ahead. */
        void addMasked(Sha sha, int mask) {
            for (int i = 0; i < sha.blockSize; i++) {
                sha.add((i < secret.size ? secret.at(i) : 0) ^ mask);
            }
        }

        void writeJson(Row to) {
            to.addWord(alg == 0 ? "{\"alg\":\"HS256\",\"kid\":" : "{\"alg\":\"HS512\",\"kid\":");
            to.addQuoted(kid);
            to.add('}');
        }

        void writeCbor(Row to) {
            to.addCborHead(5, 2);
            to.add(1);
            to.add(alg == 0 ? 5 : 7);
            to.add(4);
            to.addCborRow(2, kid);
        }
    }

    /** The CLAIMS of the next token that is ISSUED. */
    private static final class Claims {
        private final boolean[] isSet = new boolean[CLAIMS];
        private final Row[] texts = new Row[AUD + 1];
        private final long[] numbers = new long[CLAIMS];

        Claims() {
            for (int i = ISS; i <= AUD; i++) {
                texts[i] = new Row(TEXT_MOST);
            }
        }

        void setText(int claim, Row text) {
            texts[claim].copy(text, 0, text.size);
            isSet[claim] = true;
        }

        void setNumber(int claim, long v) {
            numbers[claim] = v;
            isSet[claim] = true;
        }

        void writeJson(Row to) {
            char ahead = '{';
            for (int i = 0; i < CLAIMS; i++) {
                if (isSet[i]) {
                    to.add(ahead);
                    to.add('"');
                    to.addWord(nameOf(i));
                    to.addWord("\":");
                    if (i <= AUD) {
                        to.addQuoted(texts[i]);
                    } else {
                        to.addDecimal(numbers[i]);
                    }
                    ahead = ',';
                }
            }
            if (ahead == '{') {
                to.add('{');
            }
            to.add('}');
        }

        void writeCbor(Row to) {
            int pairs = 0;
            for (int i = 0; i < CLAIMS; i++) {
                pairs += isSet[i] ? 1 : 0;
            }
            to.addCborHead(5, pairs);
            for (int i = 0; i < CLAIMS; i++) {
                if (isSet[i]) {
                    to.add(i + 1);
                    if (i <= AUD) {
                        to.addCborRow(3, texts[i]);
                    } else {
                        to.addCborHead(0, numbers[i]);
                    }
                }
            }
        }
    }

    /** What the desk asks of CLAIMS that are as told. */
    private static final class Policy {
        private long time;
        private int leeway;
        private boolean expWanted;
        private final Row issuer = new Row(TEXT_MOST);
        private final Row audience = new Row(TEXT_MOST);

        /** Why these CLAIMS are refused, or 0: the document's questions 7 to 10. */
        int refusal(Members body) {
            boolean expLacks = body.kindOf(EXP) == Members.NOTHING;
            if (expLacks ? expWanted : body.integerOf(EXP) <= time - leeway) {
                return 7;
            }
            // A number that lacks answers NONE, which is above no time.
            if (Math.max(body.integerOf(NBF), body.integerOf(IAT)) > time + leeway) {
                return 8;
            }
            if (issuer.size > 0 && !body.isRow(ISS, issuer)) {
                return 9;
            }
            if (audience.size > 0 && !body.hasPart(audience)) {
                return 10;
            }
            return 0;
        }
    }

    /**
     * What a reader found of a HEADER's or PAYLOAD's members that mean something. Each has a slot: a claim's own
     * number, or ALG, KID, CRIT of a HEADER. Texts and bytes' rows are stretches of signs.
     */
    private static final class Members {
        static final int ALG = 0;
        static final int KID = 1;
        static final int CRIT = 3;
        /** The slot of what stands right in AUD's array. */
        static final int AUD_PART = 6;

        static final int NOTHING = 0;
        static final int TEXT = 1;
        static final int BYTES = 2;
        static final int INTEGER = 3;
        static final int LIST = 4;
        static final int OTHER = 5;

        private static final int PARTS_MOST = 20;
        private static final int SIGNS_MOST = 200;

        private final int[] kinds = new int[CLAIMS];
        private final int[] starts = new int[CLAIMS];
        private final int[] sizes = new int[CLAIMS];
        private final long[] integers = new long[CLAIMS];
        private final int[] partStarts = new int[PARTS_MOST];
        private final int[] partSizes = new int[PARTS_MOST];
        /** No text has more signs than bytes, so the TAPE's length is room for all. */
        private final int[] signs = new int[TAPE_MOST];
        private int used;
        private int parts;
        private int partSigns;
        private boolean strangePart;

        void clear() {
            for (int i = 0; i < CLAIMS; i++) {
                kinds[i] = NOTHING;
            }
            used = 0;
            parts = 0;
            partSigns = 0;
            strangePart = false;
        }

        void addSign(int sign) {
            if (used < TAPE_MOST) {
                signs[used] = sign;
                used++;
            }
        }

        /** Puts the signs from start on, as a text or a bytes' row. */
        void putSigns(int slot, int kind, int start) {
            putKind(slot, kind);
            int size = used - start;
            if (slot >= 0 && slot < CLAIMS) {
                starts[slot] = start;
                sizes[slot] = size;
            }
            if (kind == TEXT && (slot == AUD || slot == AUD_PART)) {
                if (parts < PARTS_MOST) {
                    partStarts[parts] = start;
                    partSizes[parts] = size;
                }
                parts++;
                partSigns += size;
            }
        }

        void putInteger(int slot, long v) {
            putKind(slot, INTEGER);
            if (slot >= 0 && slot < CLAIMS) {
                integers[slot] = v;
            }
        }

        void putKind(int slot, int kind) {
            if (slot >= 0 && slot < CLAIMS) {
                kinds[slot] = kind;
            }
            if (slot == AUD_PART && kind != TEXT) {
                strangePart = true;
            }
        }

        int kindOf(int slot) {
            return slot >= 0 && slot < CLAIMS ? kinds[slot] : NOTHING;
        }

        long integerOf(int slot) {
            return kindOf(slot) == INTEGER ? integers[slot] : NONE;
        }

        int extentOf(int claim) {
            if (kindOf(claim) == NOTHING) {
                return NONE;
            }
            if (claim == AUD) {
                return parts > 0 ? partSizes[0] : 0;
            }
            return claim < AUD ? sizes[claim] : 1;
        }

        int signOf(int claim, int k, int i) {
            if (claim == AUD) {
                return k >= 0 && k < Math.min(parts, PARTS_MOST) ? signIn(partStarts[k], partSizes[k], i) : NONE;
            }
            return kindOf(claim) == TEXT ? signIn(starts[claim], sizes[claim], i) : NONE;
        }

        private int signIn(int start, int size, int i) {
            return i >= 0 && i < size ? signs[start + i] : NONE;
        }

        boolean areClaims() {
            for (int i = ISS; i <= SUB; i++) {
                if (kinds[i] != NOTHING && (kinds[i] != TEXT || sizes[i] > SIGNS_MOST)) {
                    return false;
                }
            }
            for (int i = EXP; i <= IAT; i++) {
                if (kinds[i] != NOTHING && (kinds[i] != INTEGER || integers[i] < 0)) {
                    return false;
                }
            }
            boolean audience = kinds[AUD] == NOTHING || kinds[AUD] == TEXT || kinds[AUD] == LIST && !strangePart;
            return audience && parts <= PARTS_MOST && partSigns <= SIGNS_MOST;
        }

        boolean isWord(int start, int size, String word) {
            if (size != word.length()) {
                return false;
            }
            for (int i = 0; i < size; i++) {
                if (signIn(start, size, i) != word.charAt(i)) {
                    return false;
                }
            }
            return true;
        }

        /** Whether a slot holds this word as a text. */
        boolean isText(int slot, String word) {
            return kindOf(slot) == TEXT && isWord(starts[slot], sizes[slot], word);
        }

        /** Whether a slot holds these bytes, as a text or a bytes' row. */
        boolean isRow(int slot, Row row) {
            int kind = kindOf(slot);
            return (kind == TEXT || kind == BYTES) && isRowAt(starts[slot], sizes[slot], row);
        }

        boolean hasPart(Row row) {
            for (int k = 0; k < parts && k < PARTS_MOST; k++) {
                if (isRowAt(partStarts[k], partSizes[k], row)) {
                    return true;
                }
            }
            return false;
        }

        private boolean isRowAt(int start, int size, Row row) {
            if (size != row.size) {
                return false;
            }
            for (int i = 0; i < size; i++) {
                if (signIn(start, size, i) != row.at(i)) {
                    return false;
                }
            }
            return true;
        }

        boolean isSame(int start, int other, int size) {
            for (int i = 0; i < size; i++) {
                if (signIn(start, size, i) != signIn(other, size, i)) {
                    return false;
                }
            }
            return true;
        }
    }

    /** Reads a HEADER or PAYLOAD that is JSON. */
    private static final class JsonReader {
        /** A member takes four bytes at least. */
        private static final int NAMES_MOST = TAPE_MOST / 4;

        private final Row row;
        private Members into;
        private boolean isHeader;
        private int at;
        /** The names of the objects that stand open, each object's behind those of the one around it. */
        private final int[] nameStarts = new int[NAMES_MOST];
        private final int[] nameSizes = new int[NAMES_MOST];
        private int names;

        JsonReader(Row row, Members into) {
            this.row = row;
            this.into = into;
        }

        boolean reads(Members into, boolean isHeader) {
            into.clear();
            this.into = into;
            this.isHeader = isHeader;
            at = 0;
            names = 0;
            skipBlanks();
            if (row.at(at) != '{' || !object(1)) {
                return false;
            }
            skipBlanks();
            return at == row.size;
        }

        private void skipBlanks() {
            for (int i = at; i < row.size && isBlank(row.at(i)); i++) {
                at++;
            }
        }

        private static boolean isBlank(int b) {
            return b == 9 || b == 10 || b == 13 || b == 32;
        }

        private static boolean isDigit(int b) {
            return b >= '0' && b <= '9';
        }

        private boolean object(int depth) {
            if (depth > DEPTH_MOST) {
                return false;
            }
            int base = names;
            at++;
            skipBlanks();
            if (row.at(at) == '}') {
                at++;
                return true;
            }
            for (int i = 0; i < row.size; i++) {
                if (!member(depth, base)) {
                    return false;
                }
                int b = row.at(at);
                at++;
                if (b == '}') {
                    names = base;
                    return true;
                }
                if (b != ',') {
                    return false;
                }
            }
            return false;
        }

        private boolean member(int depth, int base) {
            skipBlanks();
            int start = into.used;
            if (row.at(at) != '"' || !string() || !isNewName(start, base)) {
                return false;
            }
            int slot = depth == 1 ? slotOf(start, into.used - start) : NONE;
            skipBlanks();
            if (row.at(at) != ':') {
                return false;
            }
            at++;
            return value(depth, slot);
        }

        /** Keeps the name that was read last; false if its object has it already. */
        private boolean isNewName(int start, int base) {
            int size = into.used - start;
            for (int i = base; i < names; i++) {
                if (nameSizes[i] == size && into.isSame(nameStarts[i], start, size)) {
                    return false;
                }
            }
            if (names >= NAMES_MOST) {
                return false;
            }
            nameStarts[names] = start;
            nameSizes[names] = size;
            names++;
            return true;
        }

        private int slotOf(int start, int size) {
            if (isHeader) {
                return into.isWord(start, size, "alg") ? Members.ALG
                        : into.isWord(start, size, "kid") ? Members.KID
                        : into.isWord(start, size, "crit") ? Members.CRIT : NONE;
            }
            for (int claim = 0; claim < CLAIMS; claim++) {
                if (into.isWord(start, size, nameOf(claim))) {
                    return claim;
                }
            }
            return NONE;
        }

        private boolean array(int depth, int slot) {
            if (depth > DEPTH_MOST) {
                return false;
            }
            at++;
            skipBlanks();
            if (row.at(at) == ']') {
                at++;
                return true;
            }
            for (int i = 0; i < row.size; i++) {
                if (!value(depth, slot)) {
                    return false;
                }
                int b = row.at(at);
                at++;
                if (b == ']') {
                    return true;
                }
                if (b != ',') {
                    return false;
                }
            }
            return false;
        }

        /** A value and the blanks around it. */
        private boolean value(int depth, int slot) {
            skipBlanks();
            boolean read = bareValue(depth, slot);
            skipBlanks();
            return read;
        }

        private boolean bareValue(int depth, int slot) {
            int b = row.at(at);
            if (b == '"') {
                int start = into.used;
                boolean read = string();
                into.putSigns(slot, Members.TEXT, start);
                return read;
            }
            if (b == '-' || isDigit(b)) {
                return numeral(slot);
            }
            if (b == '[') {
                into.putKind(slot, Members.LIST);
                return array(depth + 1, slot == AUD ? Members.AUD_PART : NONE);
            }
            into.putKind(slot, Members.OTHER);
            return b == '{' ? object(depth + 1) : word("true") || word("false") || word("null");
        }

        private boolean word(String word) {
            for (int i = 0; i < word.length(); i++) {
                if (row.at(at + i) != word.charAt(i)) {
                    return false;
                }
            }
            at += word.length();
            return true;
        }

        private boolean numeral(int slot) {
            boolean isWhole = true;
            boolean isMinus = row.at(at) == '-';
            at += isMinus ? 1 : 0;
            int start = at;
            long v = digits();
            if (v == NONE || row.at(start) == '0' && at > start + 1) {
                return false;
            }
            if (row.at(at) == '.') {
                isWhole = false;
                at++;
                if (digits() == NONE) {
                    return false;
                }
            }
            if (row.at(at) == 'e' || row.at(at) == 'E') {
                isWhole = false;
                at++;
                at += row.at(at) == '+' || row.at(at) == '-' ? 1 : 0;
                if (digits() == NONE) {
                    return false;
                }
            }
            if (isWhole && v <= NUMBER_MOST) {
                into.putInteger(slot, isMinus ? -v : v);
            } else {
                into.putKind(slot, Members.OTHER);
            }
            return true;
        }

        /** The number that digits say, or one above 2^53 for all that are above it; NONE without a digit. */
        private long digits() {
            int start = at;
            long v = 0;
            for (int i = start; i < row.size && isDigit(row.at(i)); i++) {
                if (v <= NUMBER_MOST) {
                    v = v * 10 + (row.at(i) - '0');
                }
                at++;
            }
            return at == start ? NONE : v;
        }

        /** Adds a STRING's signs to those that were found. */
        private boolean string() {
            at++;
            for (int i = 0; i < row.size; i++) {
                int b = row.at(at);
                at++;
                if (b == '"') {
                    return true;
                }
                if (b < 32 || b > 126) {
                    return false;
                }
                int sign = b == '\\' ? escaped() : b;
                if (sign == NONE) {
                    return false;
                }
                into.addSign(sign);
            }
            return false;
        }

        private int escaped() {
            int b = row.at(at);
            at++;
            switch (b) {
                case '"':
                case '\\':
                case '/': return b;
                case 'b': return 8;
                case 'f': return 12;
                case 'n': return 10;
                case 'r': return 13;
                case 't': return 9;
                case 'u': return fourHex();
                default: return NONE;
            }
        }

        private int fourHex() {
            int sign = 0;
            for (int i = 0; i < 4; i++) {
                int digit = hexDigit(row.at(at));
                if (digit == NONE) {
                    return NONE;
                }
                sign = sign << 4 | digit;
                at++;
            }
            return sign;
        }

        private static int hexDigit(int b) {
            if (b >= '0' && b <= '9') {
                return b - '0';
            }
            if (b >= 'a' && b <= 'f') {
                return b - 'a' + 10;
            }
            return b >= 'A' && b <= 'F' ? b - 'A' + 10 : NONE;
        }
    }

    /** Reads the bytes' rows of a COSE_Mac0, and the maps in them. */
    private static final class CborReader {
        private static final int UNSIGNED = 0;
        private static final int NEGATIVE = 1;
        private static final int BYTES = 2;
        private static final int TEXT = 3;
        private static final int ARRAY = 4;
        private static final int MAP = 5;

        private final Row row;
        private Members into;
        private boolean isHeader;
        private int at;
        private int limit;
        /** The number of the latest head; below 0 it stands for one of 2^63 and more. */
        private long argument;

        CborReader(Row row, Members into) {
            this.row = row;
            this.into = into;
        }

        /** Where the bytes' row ends whose head stands at start, or NONE; the reader stands behind the head then. */
        int rowEnd(int start) {
            at = start;
            limit = row.size;
            int type = head();
            return type == BYTES && isWithin(argument) ? at + (int) argument : NONE;
        }

        /** Reads the map that takes all from where the reader stands up to the limit. */
        boolean reads(int limit, Members into, boolean isHeader) {
            into.clear();
            this.limit = limit;
            this.into = into;
            this.isHeader = isHeader;
            return head() == MAP && map(1, argument) && at == limit;
        }

        private boolean isWithin(long n) {
            return n >= 0 && n <= limit - at;
        }

        /** Steps over an item's head: its type, or NONE if it is no head, or its number has bytes to spare. */
        private int head() {
            if (at >= limit) {
                return NONE;
            }
            int type = row.at(at) >> 5;
            int info = row.at(at) & 31;
            at++;
            argument = info;
            if (info < 24) {
                return type;
            }
            int extra = 1 << (info - 24);
            if (info > 27 || !isWithin(extra)) {
                return NONE;
            }
            argument = 0;
            for (int i = 0; i < extra; i++) {
                argument = argument << 8 | row.at(at);
                at++;
            }
            return isShortest(extra) ? type : NONE;
        }

        private boolean isShortest(int extra) {
            switch (extra) {
                case 1: return argument >= 24;
                case 2: return argument >= 1L << 8;
                case 4: return argument >= 1L << 16;
                default: return argument < 0 || argument >= 1L << 32;
            }
        }

        private boolean item(int depth, int slot) {
            int first = at < limit ? row.at(at) : NONE;
            if (first >= 0xf4 && first <= 0xf6) {
                at++;
                into.putKind(slot, Members.OTHER);
                return true;
            }
            int type = head();
            switch (type) {
                case UNSIGNED:
                case NEGATIVE: return integer(type, slot);
                case BYTES:
                case TEXT: return string(type, slot);
                case ARRAY:
                    into.putKind(slot, Members.LIST);
                    return array(depth + 1, argument, slot == AUD ? Members.AUD_PART : NONE);
                case MAP:
                    into.putKind(slot, Members.OTHER);
                    return map(depth + 1, argument);
                default: return false;
            }
        }

        private boolean integer(int type, int slot) {
            long most = type == UNSIGNED ? NUMBER_MOST : NUMBER_MOST - 1;
            if (argument < 0 || argument > most) {
                into.putKind(slot, Members.OTHER);
            } else {
                into.putInteger(slot, type == UNSIGNED ? argument : -1 - argument);
            }
            return true;
        }

        private boolean string(int type, int slot) {
            if (!isWithin(argument)) {
                return false;
            }
            int start = into.used;
            int end = at + (int) argument;
            for (int i = at; i < end; i++) {
                int b = row.at(i);
                if (type == TEXT && (b < 32 || b > 126)) {
                    return false;
                }
                into.addSign(b);
            }
            at = end;
            into.putSigns(slot, type == TEXT ? Members.TEXT : Members.BYTES, start);
            return true;
        }

        private boolean array(int depth, long items, int slot) {
            if (depth > DEPTH_MOST || !isWithin(items)) {
                return false;
            }
            for (long i = 0; i < items; i++) {
                if (!item(depth, slot)) {
                    return false;
                }
            }
            return true;
        }

        private boolean map(int depth, long pairs) {
            if (depth > DEPTH_MOST || !isWithin(pairs)) {
                return false;
            }
            int lastStart = at;
            int lastEnd = at;
            for (long i = 0; i < pairs; i++) {
                int start = at;
                if (!item(depth, NONE) || !isAfter(lastStart, lastEnd, start, at)) {
                    return false;
                }
                lastStart = start;
                lastEnd = at;
                if (!item(depth, depth == 1 ? slotOf(lastStart, lastEnd) : NONE)) {
                    return false;
                }
            }
            return true;
        }

        /** Whether a key's bytes come behind those of the last one (of none at first). */
        private boolean isAfter(int lastStart, int lastEnd, int start, int end) {
            int lastSize = lastEnd - lastStart;
            int size = end - start;
            for (int i = 0; i < lastSize && i < size; i++) {
                int last = row.at(lastStart + i);
                int here = row.at(start + i);
                if (last != here) {
                    return last < here;
                }
            }
            return lastSize < size;
        }

        /** All keys that mean something are numbers of one byte. */
        private int slotOf(int start, int end) {
            int key = end - start == 1 ? row.at(start) : NONE;
            if (!isHeader) {
                return key >= 1 && key <= CLAIMS ? key - 1 : NONE;
            }
            return key == 1 ? Members.ALG : key == 4 ? Members.KID : key == 2 ? Members.CRIT : NONE;
        }
    }

    /** A token that stands on the TAPE: what its HEADER and PAYLOAD say, and its MAC (in part). */
    private static final class Token {
        private final Row tape;
        private final Row part;
        private final Members head = new Members();
        private Members body = new Members();
        private final JsonReader json;
        private final CborReader cbor;
        private int headerEnd;
        private int payloadEnd;

        Token(Row tape, Row part) {
            this.tape = tape;
            this.part = part;
            json = new JsonReader(part, head);
            cbor = new CborReader(tape, head);
        }

        boolean readsJws() {
            headerEnd = tape.indexOf('.', 0);
            payloadEnd = headerEnd == NONE ? NONE : tape.indexOf('.', headerEnd + 1);
            if (payloadEnd == NONE) {
                return false;
            }
            return part.decodes(tape, 0, headerEnd) && json.reads(head, true)
                    && part.decodes(tape, headerEnd + 1, payloadEnd) && json.reads(body, false)
                    && part.decodes(tape, payloadEnd + 1, tape.size);
        }

        boolean readsCose() {
            if (tape.at(0) != 0xd1 || tape.at(1) != 0x84) {
                return false;
            }
            headerEnd = cbor.rowEnd(2);
            if (headerEnd == NONE || !cbor.reads(headerEnd, head, true) || tape.at(headerEnd) != 0xa0) {
                return false;
            }
            payloadEnd = cbor.rowEnd(headerEnd + 1);
            if (payloadEnd == NONE || !cbor.reads(payloadEnd, body, false)) {
                return false;
            }
            int macEnd = cbor.rowEnd(payloadEnd);
            part.copy(tape, cbor.at, macEnd);
            return macEnd == tape.size;
        }

        int jwsAlg() {
            return head.isText(Members.ALG, "HS256") ? 0 : head.isText(Members.ALG, "HS512") ? 1 : NONE;
        }

        int coseAlg() {
            long alg = head.integerOf(Members.ALG);
            return alg == 5 ? 0 : alg == 7 ? 1 : NONE;
        }
    }
}
