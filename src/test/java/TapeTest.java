import java.security.MessageDigest;
import java.util.Random;

/** Promises 1, 2, 3, 19, and the TAPE's side of 9, 10 and 18. */
public final class TapeTest {
    public static void main(String[] args) throws Exception {
        newDesk();
        feed();
        end();
        hashEdges();
        hashFollowsTape();
        hashIsNeverStale();
        hashOfEachLength();
        Bench.close();
    }

    private static void newDesk() {
        Desk x = new Desk();
        int[] want = {-1, -1, 0, 0, 0, 0, 0, 0};
        for (int what = 0; what < want.length; what++) {
            Bench.due("new: count(" + what + ")", x.count(what), want[what]);
        }
        for (int claim = -1; claim <= 6; claim++) {
            Bench.due("new: has(" + claim + ")", x.has(claim), -1);
            Bench.due("new: sign(" + claim + ")", x.sign(claim, 0, 0), -1);
            Bench.due("new: claim(" + claim + ")", x.claim(claim), -1);
            Bench.due("new: unset(" + claim + ")", x.unset(claim), claim < 0 || claim > 5 ? -1 : 0);
        }
        Bench.due("new: octet(0)", x.octet(0), -1);
        Bench.due("new: issue(0, 0)", x.issue(0, 0), -1);
        Bench.due("new: back(0, 0)", x.back(0, 0), 0);
        Bench.due("new: back(0, 1)", x.back(0, 1), -1);
        Bench.due("new: back(1, 0)", x.back(1, 0), -1);
    }

    private static void feed() throws Exception {
        Desk x = new Desk();
        Bench.due("feed", x.feed(0x01020304, 0x05060708, 0x090a0b0c, 0x80ff7f00, -2), 20);
        byte[] want = Bench.hex("01020304 05060708 090a0b0c 80ff7f00 fffffffe");
        dueHash("the order of feed's bytes", x, want);
        for (int i = 2; i <= 75; i++) {
            Bench.due("feed number " + i, x.feed(i, i, i, i, i), 20 * i);
        }
        Bench.due("feed above 1500", x.feed(1, 2, 3, 4, 5), -1);
        Bench.due("count(6) after it", x.count(6), 1500);
        x.end(1481);
        Bench.due("feed above 1500 by one", x.feed(1, 2, 3, 4, 5), -1);
        Bench.due("count(6) after that", x.count(6), 1481);
        x.end(1480);
        Bench.due("feed up to 1500", x.feed(1, 2, 3, 4, 5), 1500);
    }

    private static void end() throws Exception {
        Desk x = new Desk();
        Bench.due("end(0) of none", x.end(0), 0);
        Bench.due("end(1) of none", x.end(1), -1);
        Bench.put(x, "abcdef");
        Bench.due("end(7) of 6", x.end(7), -1);
        Bench.due("end(-1)", x.end(-1), -1);
        Bench.due("end(least)", x.end(Integer.MIN_VALUE), -1);
        Bench.due("end(most)", x.end(Integer.MAX_VALUE), -1);
        Bench.due("count(6)", x.count(6), 6);
        Bench.due("end(6) of 6", x.end(6), 6);
        Bench.due("end(2) of 6", x.end(2), 2);
        dueHash("what end left", x, Bench.ascii("ab"));
        Bench.put(x, "xy");
        dueHash("what came behind", x, Bench.ascii("abxy"));
        Bench.due("end(0)", x.end(0), 0);
        Bench.due("end(1) of none again", x.end(1), -1);
    }

    private static void hashEdges() {
        Desk x = new Desk();
        Bench.put(x, "abc");
        Bench.due("hash(0, -1)", x.hash(0, -1), -1);
        Bench.due("hash(0, 31)", x.hash(0, 31), 0xad);
        Bench.due("hash(0, 32)", x.hash(0, 32), -1);
        Bench.due("hash(1, -1)", x.hash(1, -1), -1);
        Bench.due("hash(1, 63)", x.hash(1, 63), 0x9f);
        Bench.due("hash(1, 64)", x.hash(1, 64), -1);
        Bench.due("hash(2, 0)", x.hash(2, 0), -1);
        Bench.due("hash(-1, 0)", x.hash(-1, 0), -1);
        Bench.due("hash of most", x.hash(Integer.MAX_VALUE, Integer.MAX_VALUE), -1);
        Bench.due("hash of least", x.hash(0, Integer.MIN_VALUE), -1);
        Bench.due("the TAPE stays", x.count(6), 3);
    }

    /** The hash is of the TAPE as it is now, whatever made it another one. */
    private static void hashFollowsTape() throws Exception {
        Desk x = new Desk();
        Bench.addKey(x, 0, "k", Bench.ascii("secret"));
        x.issue(0, 0);
        byte[] out = Bench.out(x);
        Bench.put(x, "abc");
        dueHash("fed", x, Bench.ascii("abc"), 5);
        x.end(2);
        dueHash("cut", x, Bench.ascii("ab"), 5);
        x.back(0, out.length);
        dueHash("brought back", x, Bench.join(Bench.ascii("ab"), out), 5);
        x.verify(0);
        dueHash("verified", x, new byte[0], 5);
        Bench.put(x, "ab");
        x.verify(2);
        dueHash("not verified", x, Bench.ascii("ab"), 5);
        x.text(0);
        dueHash("a text", x, new byte[0], 5);
        Bench.put(x, "cd");
        dueHash("the same length", x, Bench.ascii("cd"), 5);
        x.end(0);
        Bench.put(x, "ce");
        dueHash("the same length again", x, Bench.ascii("ce"), 5);
        x.wants(0);
        dueHash("an issuer", x, new byte[0], 5);
        Bench.put(x, "cf");
        dueHash("of a key", x, Bench.ascii("cf"), 5);
        x.key(0, 1);
        dueHash("a key", x, new byte[0], 5);
    }

    /** One hash alone is asked for again and again, with one call between that makes the TAPE another one. */
    private static void hashIsNeverStale() throws Exception {
        for (int alg = 0; alg < 2; alg++) {
            Desk x = new Desk();
            Bench.addKey(x, 0, "k", Bench.ascii("secret"));
            int size = x.issue(1, 0);
            byte[] twenty = Bench.hex("00000001 00000002 00000003 00000004 00000005");
            dueFirstByte("none", x, alg, new byte[0]);
            x.feed(1, 2, 3, 4, 5);
            dueFirstByte("fed", x, alg, twenty);
            x.feed(1, 2, 3, 4, 5);
            dueFirstByte("fed again", x, alg, Bench.join(twenty, twenty));
            x.end(20);
            dueFirstByte("cut", x, alg, twenty);
            x.end(20);
            dueFirstByte("not cut", x, alg, twenty);
            x.issue(0, 0);
            dueFirstByte("between MACs", x, alg, twenty);
            x.issue(1, 0);
            x.end(0);
            x.back(0, size);
            dueFirstByte("brought back", x, alg, Bench.out(x));
            x.verify(1);
            dueFirstByte("verified", x, alg, new byte[0]);
            x.feed(0x61616161, 0x61616161, 0x61616161, 0x61616161, 0x61616161);
            dueFirstByte("a text", x, alg, Bench.ascii("a".repeat(20)));
            x.text(0);
            dueFirstByte("no text", x, alg, new byte[0]);
        }
    }

    private static void dueFirstByte(String what, Desk x, int alg, byte[] tape) throws Exception {
        byte[] want = MessageDigest.getInstance(alg == 0 ? "SHA-256" : "SHA-512").digest(tape);
        Bench.due(what + ": hash(" + alg + ", 0)", x.hash(alg, 0), want[0] & 255);
        Bench.due(what + ": hash(" + alg + ", 31)", x.hash(alg, 31), want[31] & 255);
    }

    private static void hashOfEachLength() throws Exception {
        byte[] bytes = new byte[1500];
        new Random(1).nextBytes(bytes);
        for (int size = 0; size <= 1500; size += size < 300 ? 1 : 7) {
            Desk x = new Desk();
            byte[] row = java.util.Arrays.copyOf(bytes, size);
            Bench.put(x, row);
            dueHash(size + " bytes", x, row);
        }
    }

    private static void dueHash(String what, Desk x, byte[] tape) throws Exception {
        dueHash(what, x, tape, 64);
    }

    private static void dueHash(String what, Desk x, byte[] tape, int bytes) throws Exception {
        Bench.due(what + ": count(6)", x.count(6), tape.length);
        for (int alg = 0; alg < 2; alg++) {
            byte[] want = MessageDigest.getInstance(alg == 0 ? "SHA-256" : "SHA-512").digest(tape);
            for (int i = 0; i < want.length && i < bytes; i++) {
                Bench.due(what + ": hash(" + alg + ", " + i + ")", x.hash(alg, i), want[i] & 255);
            }
        }
    }
}
