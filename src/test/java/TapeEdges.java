import java.util.Arrays;
import java.util.Random;

/** The boundary cases of promises 1, 2, 3, 9, 10 and 19: a new object, the TAPE, OUT's bytes, the hash. */
final class TapeEdges {
    private static final int LEAST = Integer.MIN_VALUE;
    private static final int MOST = Integer.MAX_VALUE;

    private TapeEdges() {
    }

    static void all() {
        Edges.edge("1", "No KEYS", TapeEdges::noKeys);
        Edges.edge("1", "no CLAIMS", TapeEdges::noClaims);
        Edges.edge("1", "an empty TAPE", TapeEdges::emptyTape);
        Edges.edge("2", "Twenty bytes come behind the TAPE, of each number the highest first: how many it has", TapeEdges::feedAdds);
        Edges.edge("2", "NONE, and none comes, if it would have more than 1500", TapeEdges::feedIsFull);
        Edges.edge("3", "The TAPE has its first n bytes alone: n", TapeEdges::endCuts);
        Edges.edge("3", "NONE, and nothing happens, if it has not so many", TapeEdges::endOfTooMany);
        Edges.edge("3", "or n is below 0", TapeEdges::endBelowZero);
        Edges.edge("9", "Byte i of OUT, 0 .. 255; NONE", TapeEdges::octets);
        Edges.edge("10", "OUT's bytes from i on, n of them, come behind the TAPE: how many it has", TapeEdges::backAdds);
        Edges.edge("10", "NONE, and none comes, if they are not there", TapeEdges::backOfNone);
        Edges.edge("10", "or the TAPE would have more than 1500", TapeEdges::backIsFull);
        Edges.edge("19", "The hash itself: byte i of SHA-256 (0) or SHA-512 (1) of the TAPE, which stays", TapeEdges::hashes);
        Edges.edge("19", "NONE", TapeEdges::hashOfNone);
    }

    private static byte[] some(int size) {
        byte[] bytes = new byte[size];
        new Random(size).nextBytes(bytes);
        return bytes;
    }

    private static State.Calls busyWith(int size) {
        return State.then(State::busy, State.fed(some(size)));
    }

    private static State.Calls freshWith(int size) {
        return State.fed(some(size));
    }

    private static void noKeys() {
        Desk x = new Desk();
        Bench.due("new: KEYS", x.count(5), 0);
        for (int family = 0; family < 2; family++) {
            for (int key = -1; key <= 6; key++) {
                Bench.due("new: issue(" + family + ", " + key + ")", x.issue(family, key), -1);
            }
        }
        Bench.due("new: no kid", Bench.verify(x, 0, Bench.jws("{\"alg\":\"HS256\"}", "{}", 0, State.SECRET)), 3);
        Bench.due("new: a kid", Bench.verify(x, 0, Bench.jws("{\"alg\":\"HS256\",\"kid\":\"q\"}", "{}", 0, State.SECRET)), 3);
        Bench.due("new: no kid of COSE", Bench.verify(x, 1, Bench.cose(Bench.hex("a10105"), Bench.hex("a0"), 0, State.SECRET)), 3);
        Bench.due("the first KEY's number", Bench.addKey(x, 0, "q", State.SECRET), 0);
    }

    private static void noClaims() {
        Desk x = new Desk();
        for (int claim = 0; claim < 6; claim++) {
            Bench.due("new: unset(" + claim + ")", x.unset(claim), 0);
        }
        Bench.addKey(x, 0, "q", State.SECRET);
        x.issue(0, 0);
        Bench.dueOut("new: a JWS", x, Bench.jws("{\"alg\":\"HS256\",\"kid\":\"q\"}", "{}", 0, State.SECRET));
        x.issue(1, 0);
        Bench.dueOut("new: a COSE", x, Bench.cose(Bench.hex("a2 01 05 04 4171"), Bench.hex("a0"), 0, State.SECRET));
        Desk y = new Desk();
        for (int claim = -1; claim <= 6; claim++) {
            Bench.due("new: has(" + claim + ")", y.has(claim), -1);
            Bench.due("new: claim(" + claim + ")", y.claim(claim), -1);
            Bench.due("new: sign(" + claim + ")", y.sign(claim, 0, 0), -1);
        }
    }

    private static void emptyTape() {
        Desk x = new Desk();
        Bench.dueTape("new", x, new byte[0]);
        Bench.due("new: end(1)", x.end(1), -1);
        Bench.due("new: end(0)", x.end(0), 0);
        Bench.due("new: back(0, 0)", x.back(0, 0), 0);
        Bench.due("new: verify(0)", x.verify(0), 1);
        Bench.due("new: verify(1)", x.verify(1), 1);
        Bench.due("new: key(0, 1)", x.key(0, 1), -1);
        Bench.due("new: text(0)", x.text(0), 0);
        Bench.due("new: wants(0)", x.wants(0), 0);
    }

    private static void feedAdds() {
        Desk x = new Desk();
        byte[] twenty = Bench.hex("00010203 7fffffff 80000000 fffefdfc 0a141e28");
        Bench.due("feed on none", x.feed(0x00010203, MOST, LEAST, 0xfffefdfc, 0x0a141e28), 20);
        Bench.dueTape("fed", x, twenty);
        x.end(3);
        Bench.due("feed behind 3", x.feed(0x00010203, MOST, LEAST, 0xfffefdfc, 0x0a141e28), 23);
        Bench.dueTape("fed behind 3", x, Bench.join(Bench.hex("000102"), twenty));
        for (int i = 0; i < 20; i++) {
            Desk y = new Desk();
            int[] words = new int[5];
            words[i / 4] = 0x81 << (24 - 8 * (i % 4));
            y.feed(words[0], words[1], words[2], words[3], words[4]);
            byte[] want = new byte[20];
            want[i] = (byte) 0x81;
            Bench.dueTape("byte " + i + " of feed", y, want);
        }
        State.same("feed changes the TAPE alone", x2 -> {
            State.busy(x2);
            x2.feed(1, 2, 3, 4, 5);
            x2.end(0);
        }, State::busy);
    }

    private static void feedIsFull() {
        for (int size = 1478; size <= 1500; size++) {
            Desk x = new Desk();
            Bench.put(x, some(size));
            boolean fits = size <= 1480;
            Bench.due("feed behind " + size, x.feed(1, 2, 3, 4, 5), fits ? size + 20 : -1);
            byte[] more = Bench.hex("00000001 00000002 00000003 00000004 00000005");
            Bench.dueTape("feed behind " + size, x, fits ? Bench.join(some(size), more) : some(size));
        }
        for (int size : new int[] {1481, 1499, 1500}) {
            State.dueNothing("feed behind " + size, busyWith(size), x -> x.feed(1, 2, 3, 4, 5), -1);
            State.dueNothing("feed behind " + size + " of a new desk", freshWith(size), x -> x.feed(-1, -1, -1, -1, -1), -1);
        }
        Desk x = new Desk();
        for (int i = 1; i <= 75; i++) {
            Bench.due("feed " + i, x.feed(i, i, i, i, i), 20 * i);
        }
        Bench.due("feed 76", x.feed(0, 0, 0, 0, 0), -1);
        Bench.due("feed 77", x.feed(0, 0, 0, 0, 0), -1);
        x.end(0);
        Bench.due("feed of an empty one again", x.feed(0, 0, 0, 0, 0), 20);
    }

    private static void endCuts() {
        for (int size : new int[] {0, 1, 20, 45, 1500}) {
            for (int n : new int[] {0, 1, 19, 20, 44, 45, 1499, 1500}) {
                if (n <= size) {
                    Desk x = new Desk();
                    Bench.put(x, some(size));
                    Bench.due("end(" + n + ") of " + size, x.end(n), n);
                    Bench.dueTape("end(" + n + ") of " + size, x, Arrays.copyOf(some(size), n));
                }
            }
        }
        State.dueNothing("end of all", busyWith(45), x -> x.end(45), 45);
        State.same("end(0) leaves what was there before", State.then(busyWith(45), x -> x.end(0)), State::busy);
    }

    private static void endOfTooMany() {
        for (int size : new int[] {0, 1, 45, 1499, 1500}) {
            for (int n : new int[] {size + 1, size + 2, size + 20, 1501, MOST}) {
                Desk x = new Desk();
                Bench.put(x, some(size));
                Bench.due("end(" + n + ") of " + size, x.end(n), -1);
                Bench.dueTape("end(" + n + ") of " + size, x, some(size));
            }
            State.dueNothing("end of one too many of " + size, busyWith(size), x -> x.end(size + 1), -1);
        }
        Desk x = new Desk();
        Bench.put(x, some(40));
        x.end(10);
        Bench.due("what was cut is not there any more", x.end(11), -1);
        Bench.dueTape("what was cut", x, Arrays.copyOf(some(40), 10));
    }

    private static void endBelowZero() {
        for (int n : new int[] {-1, -2, -20, -1500, LEAST, LEAST + 1}) {
            State.dueNothing("end(" + n + ")", busyWith(45), x -> x.end(n), -1);
            State.dueNothing("end(" + n + ") of a new desk", State::fresh, x -> x.end(n), -1);
        }
    }

    private static void octets() {
        Desk none = new Desk();
        for (int i : new int[] {LEAST, -1, 0, 1, MOST}) {
            Bench.due("octet(" + i + ") of no OUT", none.octet(i), -1);
        }
        Desk x = new Desk();
        Bench.addKey(x, 1, "q", State.SECRET);
        byte[] want = Bench.cose(Bench.hex("a2 01 07 04 4171"), Bench.hex("a0"), 1, State.SECRET);
        Bench.due("issue(1, 0)", x.issue(1, 0), want.length);
        for (int i = 0; i < want.length; i++) {
            Bench.due("octet(" + i + ")", x.octet(i), want[i] & 255);
        }
        for (int i : new int[] {LEAST, -1, want.length, want.length + 1, 1500, MOST}) {
            Bench.due("octet(" + i + ") of " + want.length, x.octet(i), -1);
        }
        Bench.addKey(x, 0, "r", State.SECRET);
        int size = x.issue(1, 1);
        Bench.due("a shorter token's last byte is there", x.octet(size - 1) >= 0, true);
        Bench.due("none of the longer one's is left", x.octet(size), -1);
        State.dueNothing("octet(0)", busyWith(7), y -> y.octet(0), 0xd1);
        for (int i : new int[] {LEAST, -1, 1500, MOST}) {
            State.dueNothing("octet(" + i + ")", busyWith(7), y -> y.octet(i), -1);
        }
    }

    /** A desk with an OUT of this token, and so many bytes on the TAPE. */
    private static State.Calls outAnd(int tape) {
        return x -> {
            Bench.addKey(x, 0, "q", State.SECRET);
            x.issue(1, 0);
            Bench.put(x, some(tape));
        };
    }

    private static byte[] token() {
        return Bench.cose(Bench.hex("a2 01 05 04 4171"), Bench.hex("a0"), 0, State.SECRET);
    }

    private static void backAdds() {
        byte[] out = token();
        int size = out.length;
        int[][] stretches = {{0, size}, {0, 1}, {0, size - 1}, {1, size - 1}, {size - 1, 1}, {size, 0}, {0, 0}, {7, 0}, {3, 4}};
        for (int tape : new int[] {0, 3}) {
            for (int[] s : stretches) {
                Desk x = new Desk();
                outAnd(tape).on(x);
                String what = "back(" + s[0] + ", " + s[1] + ") behind " + tape;
                Bench.due(what, x.back(s[0], s[1]), tape + s[1]);
                Bench.dueTape(what, x, Bench.join(some(tape), Arrays.copyOfRange(out, s[0], s[0] + s[1])));
                Bench.due(what + ": OUT stays", x.count(7), size);
            }
        }
        State.same("back changes the TAPE alone", State.then(State::busy, x -> x.back(0, 20)),
                State.then(State::busy, x -> Bench.put(x, busyOut(20))));
    }

    /** The first bytes of a busy desk's OUT, as octet() tells them. */
    private static byte[] busyOut(int size) {
        Desk x = new Desk();
        State.busy(x);
        return Arrays.copyOf(Bench.out(x), size);
    }

    private static void backOfNone() {
        int size = token().length;
        int[][] calls = {{0, size + 1}, {1, size}, {size, 1}, {size - 1, 2}, {size + 1, 0}, {size + 1, 1}, {-1, 0}, {-1, 1}, {-1, 2},
            {-1, size}, {0, -1}, {1, -1}, {size, -1}, {size + 1, -1}, {-5, 10}, {0, MOST}, {1, MOST}, {MOST, 0}, {MOST, 1}, {MOST, MOST},
            {LEAST, 0}, {LEAST, MOST}, {LEAST, LEAST}, {0, LEAST}, {size, LEAST}, {MOST, LEAST}, {-1, LEAST}, {LEAST, 1}};
        for (int[] call : calls) {
            State.dueNothing("back(" + call[0] + ", " + call[1] + ")", outAnd(3), x -> x.back(call[0], call[1]), -1);
        }
        for (int[] call : new int[][] {{0, 1}, {1, 0}, {0, -1}, {-1, 0}, {-1, 1}, {MOST, MOST}}) {
            State.dueNothing("back(" + call[0] + ", " + call[1] + ") of no OUT", freshWith(3), x -> x.back(call[0], call[1]), -1);
        }
        State.dueNothing("back(0, 0) of no OUT", freshWith(3), x -> x.back(0, 0), 3);
    }

    private static void backIsFull() {
        byte[] out = token();
        int size = out.length;
        for (int over = -1; over <= 2; over++) {
            int tape = 1500 - size + over;
            Desk x = new Desk();
            outAnd(tape).on(x);
            Bench.due("back behind " + tape, x.back(0, size), over <= 0 ? tape + size : -1);
            Bench.dueTape("back behind " + tape, x, over <= 0 ? Bench.join(some(tape), out) : some(tape));
        }
        State.dueNothing("one byte too many", outAnd(1500 - size + 1), x -> x.back(0, size), -1);
        State.dueNothing("one byte behind 1500", outAnd(1500), x -> x.back(size - 1, 1), -1);
        State.dueNothing("no byte behind 1500", outAnd(1500), x -> x.back(0, 0), 1500);
        State.dueNothing("no byte of the end behind 1500", outAnd(1500), x -> x.back(size, 0), 1500);
        State.dueNothing("as many as a number can say behind 1500", outAnd(1500), x -> x.back(0, MOST), -1);
    }

    private static void hashes() {
        int[] sizes = {0, 1, 3, 54, 55, 56, 57, 63, 64, 65, 110, 111, 112, 113, 119, 120, 127, 128, 129, 183, 184, 239, 240, 255, 256, 1500};
        for (int size : sizes) {
            for (int alg = 0; alg < 2; alg++) {
                Desk x = new Desk();
                Bench.put(x, some(size));
                byte[] want = Bench.digest(alg, some(size));
                for (int i = 0; i < want.length; i++) {
                    Bench.due("hash(" + alg + ", " + i + ") of " + size, x.hash(alg, i), want[i] & 255);
                }
            }
        }
        hashFollowsTape();
        State.dueNothing("hash(0, 0)", busyWith(45), x -> x.hash(0, 0), Bench.digest(0, some(45))[0] & 255);
        State.dueNothing("hash(1, 63)", busyWith(45), x -> x.hash(1, 63), Bench.digest(1, some(45))[63] & 255);
    }

    /** The hash is asked for after each call that makes the TAPE another one, of the same length too. */
    private static void hashFollowsTape() {
        for (int alg = 0; alg < 2; alg++) {
            Desk x = new Desk();
            outAnd(0).on(x);
            byte[] twenty = Bench.hex("00000001 00000002 00000003 00000004 00000005");
            dueHash("empty", x, alg, new byte[0]);
            x.feed(1, 2, 3, 4, 5);
            dueHash("fed", x, alg, twenty);
            x.end(0);
            x.feed(1, 2, 3, 4, 6);
            dueHash("as many other bytes", x, alg, Bench.join(Arrays.copyOf(twenty, 19), new byte[] {6}));
            x.end(19);
            dueHash("cut", x, alg, Arrays.copyOf(twenty, 19));
            x.end(0);
            x.back(0, 19);
            dueHash("brought back", x, alg, Arrays.copyOf(token(), 19));
            x.verify(0);
            dueHash("VERIFIED", x, alg, new byte[0]);
            x.back(1, 19);
            dueHash("as many others brought back", x, alg, Arrays.copyOfRange(token(), 1, 20));
            x.issue(1 - alg, 0);
            dueHash("between MACs", x, alg, Arrays.copyOfRange(token(), 1, 20));
            x.text(0);
            dueHash("a text", x, alg, new byte[0]);
            x.feed(1, 2, 3, 4, 5);
            dueHash("fed again", x, alg, twenty);
            x.key(0, 1);
            dueHash("a KEY", x, alg, new byte[0]);
        }
    }

    private static void dueHash(String what, Desk x, int alg, byte[] tape) {
        byte[] want = Bench.digest(alg, tape);
        for (int i = 0; i < 4; i++) {
            Bench.due(what + ": hash(" + alg + ", " + i + ")", x.hash(alg, i), want[i] & 255);
        }
    }

    private static void hashOfNone() {
        int[][] none = {{0, -1}, {0, 32}, {0, 33}, {0, 63}, {0, MOST}, {0, LEAST}, {1, -1}, {1, 64}, {1, 65}, {1, MOST}, {1, LEAST}, {-1, 0},
            {2, 0}, {2, 64}, {MOST, 0}, {LEAST, 0}, {MOST, MOST}};
        for (int[] call : none) {
            State.dueNothing("hash(" + call[0] + ", " + call[1] + ")", busyWith(45), x -> x.hash(call[0], call[1]), -1);
        }
        Desk x = new Desk();
        Bench.due("hash(0, 31) of none", x.hash(0, 31), 0x55);
        Bench.due("hash(0, 32) of none", x.hash(0, 32), -1);
        Bench.due("hash(1, 63) of none", x.hash(1, 63), 0x3e);
        Bench.due("hash(1, 64) of none", x.hash(1, 64), -1);
    }
}
