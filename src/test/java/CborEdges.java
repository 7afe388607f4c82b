import java.util.Arrays;

/** The boundary cases of the terms' III: CBOR, and what a COSE_Mac0 is made of. */
final class CborEdges {
    private static final String AHEAD = "d184 46a20105044171 a0 41a0";

    private CborEdges() {
    }

    static void all() {
        Edges.edge("III", "CBOR (RFC 8949): items of major types 0 to 5, and false, true, null", CborEdges::items);
        Edges.edge("III", "lengths as told (no open ones)", CborEdges::lengths);
        Edges.edge("III", "each number in the fewest bytes", CborEdges::fewestBytes);
        Edges.edge("III", "TEXTS of bytes 32 .. 126", CborEdges::texts);
        Edges.edge("III", "a map's keys in the order of their bytes", CborEdges::keyOrder);
        Edges.edge("III", "none twice", CborEdges::noneTwice);
        Edges.edge("III", "8 within one another at most (arrays, maps)", CborEdges::depth);
        Edges.edge("III", "INTEGER: of types 0, 1, from -2^53 to 2^53", CborEdges::integers);
        Edges.edge("III", "COSE_Mac0: the bytes d1 84 (hexadecimal)", CborEdges::firstBytes);
        Edges.edge("III", "a bytes' row, which is HEADER: a map; a0", CborEdges::headerRow);
        Edges.edge("III", "a bytes' row, which is PAYLOAD: a map", CborEdges::payloadRow);
        Edges.edge("III", "a bytes' row: the MAC of: 84, the TEXT MAC0, the HEADER's bytes' row, 40, the PAYLOAD's bytes' row (all as CBOR)",
                CborEdges::macRow);
        Edges.edge("III", "Nothing behind", CborEdges::nothingBehind);
        Edges.edge("III", "HEADER's keys: 1 alg (INTEGER 5, 7: ALG 0, 1)", CborEdges::alg);
        Edges.edge("III", "4 kid (a bytes' row)", CborEdges::kid);
        Edges.edge("III", "2 crit (any)", CborEdges::crit);
        Edges.edge("III", "PAYLOAD's: 1 iss, 2 sub (TEXTS)", CborEdges::issAndSub);
        Edges.edge("III", "3 aud (a TEXT, or an array of TEXTS)", CborEdges::aud);
        Edges.edge("III", "4 exp, 5 nbf, 6 iat (INTEGERS not below 0)", CborEdges::times);
        Edges.edge("III", "Other keys (any items) mean nothing", CborEdges::others);
    }

    private static String byteHex(int b) {
        return String.format("%02x", b);
    }

    private static void items() {
        for (int first = 0; first < 256; first++) {
            int type = first >> 5;
            int info = first & 31;
            String item = byteHex(first);
            if (info >= 24 && info <= 27) {
                // The first number that needs so many bytes.
                String[] numbers = {"18", "0100", "00010000", "0000000100000000"};
                boolean good = type < 2;
                Judge.cborItem(item + numbers[info - 24], good ? 0 : 1);
            } else {
                boolean good = type < 2 && info < 24 || type < 6 && info == 0 || first >= 0xf4 && first <= 0xf6;
                Judge.cborItem(item, good ? 0 : 1);
            }
            if (info >= 1 && info < 24) {
                String rest = type == 3 ? "61".repeat(info) : type == 5 ? pairs(info) : "00".repeat(info);
                Judge.cborItem(item + rest, type >= 2 && type <= 5 ? 0 : 1);
            }
        }
        for (String item : new String[] {"f7", "f3", "f814", "f815", "f816", "f818", "f820", "f8ff", "f93c00", "fa3f800000", "fb3ff0000000000000", "ff", "c000",
                "c11a00000000", "c24101", "d100", "d81800", "d9010000", "81f7", "81c000", "a100f7", "a1f700", "a1c00000", "", "0000"}) {
            Judge.cborItem(item, 1);
        }
        for (String item : new String[] {"f4", "f5", "f6", "83f4f5f6", "a3f4f4f5f5f6f6"}) {
            Judge.cborItem(item, 0);
        }
    }

    /** Pairs of a map whose keys are 0, 1, 2 .. */
    private static String pairs(int n) {
        StringBuilder pairs = new StringBuilder();
        for (int i = 0; i < n; i++) {
            pairs.append(Judge.hex(Bench.head(0, i))).append("f6");
        }
        return pairs.toString();
    }

    private static void lengths() {
        for (String open : new String[] {"5f4100ff", "5fff", "7f6161ff", "7fff", "9f00ff", "9fff", "bf0000ff", "bfff", "5f", "7f", "9f", "bf", "1f", "3f", "df00"}) {
            Judge.cborItem(open, 1);
        }
        for (int first = 0x1c; first < 256; first += (first & 31) == 31 ? 29 : 1) {
            // 28 to 31 tell no length: neither what is there nor the bytes that 28 and more would stand for.
            for (int rest : new int[] {0, 1, 16, 32, 64, 128}) {
                Judge.cborItem(byteHex(first) + "00".repeat(rest), 1);
                Judge.cborItem(byteHex(first) + "ff".repeat(rest), 1);
            }
        }
        // A number's own bytes that lack: those of what comes behind the row are not taken for them.
        for (String lacking : new String[] {"18", "19", "1901", "1a", "1a000100", "1b", "1b00000001000000", "58", "78", "98", "b8"}) {
            Judge.cborItem(lacking, 1);
        }
        for (int n : new int[] {1, 5, 23}) {
            for (int more = -1; more <= 1; more++) {
                int want = more == 0 ? 0 : 1;
                Judge.cborItem(byteHex(0x40 + n) + "00".repeat(n + more), want);
                Judge.cborItem(byteHex(0x60 + n) + "61".repeat(n + more), want);
                Judge.cborItem(byteHex(0x80 + n) + "00".repeat(n + more), want);
                Judge.cborItem(byteHex(0xa0 + n) + pairs(n + more), want);
            }
            Judge.cborItem(byteHex(0xa0 + n) + pairs(n - 1) + byteHex(n), 1);
        }
        for (String type : new String[] {"5", "7", "9", "b"}) {
            for (String number : new String[] {"818", "90100", "9ffff", "a00010000", "a7fffffff", "a80000000", "affffffff", "b0000000100000000",
                    "b7fffffffffffffff", "b8000000000000000", "bffffffffffffffff", "8", "901", "a000100", "b00000001000000"}) {
                Judge.cborItem(type + number, 1);
                Judge.cborItem(type + number + "00", 1);
            }
        }
        Judge.coseHex("d184 5f46a20105044171ff a0 41a0 4100", 1);
        Judge.coseHex("d184 46a20105044171 a0 5f41a0ff 4100", 1);
        Judge.coseHex("d184 46a20105044171 a0 41a0 5f4100ff", 1);
        Judge.coseHex("d19f 46a20105044171 a0 41a0 4100 ff", 1);
        Judge.coseHex("d184 46a20105044171 bfff 41a0 4100", 1);
    }

    private static void fewestBytes() {
        for (int type = 0; type < 2; type++) {
            String top = type == 0 ? "1" : "3";
            String[] good = {top + "7", top + "818", top + "8ff", top + "90100", top + "9ffff", top + "a00010000",
                top + "affffffff", top + "b0000000100000000", top + "bffffffffffffffff"};
            String[] bad = {top + "800", top + "817", top + "90000", top + "90018", top + "900ff", top + "a00000000", top + "a00000100", top + "a0000ffff",
                top + "b0000000000000000", top + "b0000000000010000", top + "b00000000ffffffff"};
            for (String item : good) {
                Judge.cborItem(item, 0);
                Judge.cborItem("81" + item, 0);
                Judge.cborItem("a1" + item + item, 0);
            }
            for (String item : bad) {
                Judge.cborItem(item, 1);
                Judge.cborItem("81" + item, 1);
                Judge.cborItem("a1" + item + "00", 1);
                Judge.cborItem("a100" + item, 1);
            }
        }
        for (int size : new int[] {0, 1, 22, 23, 24, 25, 254, 255, 256, 257}) {
            String[] contents = {"00".repeat(size), "61".repeat(size), "00".repeat(size), size < 200 ? pairs(size) : null};
            for (int i = 0; i < 4; i++) {
                String top = byteHex(0x58 + 32 * i);
                String wider = byteHex(0x59 + 32 * i);
                String widest = byteHex(0x5a + 32 * i);
                if (contents[i] != null) {
                    Judge.cborItem(Judge.hex(Bench.head(2 + i, size)) + contents[i], 0);
                    Judge.cborItem(size < 256 ? top + byteHex(size) + contents[i] : widest + String.format("%08x", size) + contents[i],
                            size >= 24 && size < 256 ? 0 : 1);
                    Judge.cborItem(wider + String.format("%04x", size) + contents[i], size >= 256 ? 0 : 1);
                }
            }
        }
        Judge.coseHex("d184 5806a20105044171 a0 41a0 4100", 1);
        Judge.coseHex("d184 590006a20105044171 a0 41a0 4100", 1);
        Judge.coseHex("d184 46a20105044171 a0 5801a0 4100", 1);
        Judge.coseHex("d184 46a20105044171 a0 41a0 580100", 1);
        Judge.coseHex("d184 46a20105044171 a0 41a0 5817" + "00".repeat(23), 1);
        Judge.coseHex("d184 46a20105044171 a0 41a0 57" + "00".repeat(23), 5);
        Judge.coseHex("d184 46a20105044171 a0 41a0 5818" + "00".repeat(24), 5);
        Judge.coseHex("d184 46a20105044171 a0 41a0 590020" + "00".repeat(32), 1);
        Judge.coseHex("d184 46a20105044171 b800 41a0 4100", 1);
        Judge.coseHex("d19804 46a20105044171 a0 41a0 4100", 1);
        Judge.coseHex("d81184 46a20105044171 a0 41a0 4100", 1);
        Judge.cborHeader("b802 01 05 04 4171", 1);
        Judge.cborHeader("a2 1801 05 04 4171", 1);
        Judge.cborHeader("a2 01 1805 04 4171", 1);
        Judge.cborHeader("a2 01 05 04 580171", 1);
        Judge.cbor("a1 04 1b00000000ffffffff", 1);
        Judge.cbor("a1 04 1affffffff", 0);
    }

    private static void texts() {
        for (int b = 0; b < 256; b++) {
            int want = b >= 32 && b <= 126 ? 0 : 1;
            Judge.cborItem("61" + byteHex(b), want);
            Judge.cborItem("8263" + byteHex(b) + "616100", want);
            Judge.cborItem("a1 62 61" + byteHex(b) + "f6", want);
            Judge.cbor("a1 01 62 61" + byteHex(b), want);
            Judge.cbor("a1 03 81 62" + byteHex(b) + "61", want);
            Judge.cborItem("41" + byteHex(b), 0);
        }
        Judge.cborItem("60", 0);
        Judge.cborItem("62c3a4", 1);
    }

    private static void keyOrder() {
        String[][] inOrder = {{"00", "07"}, {"07", "08"}, {"17", "1818"}, {"1818", "1819"}, {"18ff", "190100"}, {"19ffff", "1a00010000"},
            {"1affffffff", "1b0000000100000000"}, {"1bffffffffffffffff", "20"}, {"07", "20"}, {"1818", "20"}, {"20", "21"}, {"37", "3818"}, {"3818", "40"},
            {"40", "4100"}, {"4100", "4101"}, {"41ff", "420000"}, {"43000000", "60"}, {"60", "6120"}, {"6161", "6162"}, {"617e", "622020"}, {"626161", "626162"},
            {"62617e", "626220"}, {"63616161", "80"}, {"80", "8100"}, {"8100", "8101"}, {"8117", "811818"}, {"8120", "820000"}, {"830000f6", "a0"},
            {"a0", "a10000"}, {"a10000", "a10001"}, {"a10001", "a10100"}, {"a10000", "f4"}, {"f4", "f5"}, {"f5", "f6"}, {"00", "f6"}};
        for (String[] keys : inOrder) {
            Judge.cborItem("a2" + keys[0] + "00" + keys[1] + "00", 0);
            Judge.cborItem("a2" + keys[1] + "00" + keys[0] + "00", 1);
            Judge.cborItem("81a1" + "00" + "a2" + keys[1] + "00" + keys[0] + "00", 1);
        }
        Judge.cbor("a3 00f6 07f6 20f6", 0);
        Judge.cbor("a3 00f6 20f6 07f6", 1);
        Judge.cbor("a3 07f6 00f6 20f6", 1);
        Judge.cbor("a2 02 6161 01 6161", 1);
        Judge.cbor("a2 01 6161 02 6161", 0);
        Judge.cborHeader("a2 04 4171 01 05", 1);
        Judge.cborItem("a1 a2 01 00 00 00 00", 1);
    }

    private static void noneTwice() {
        for (String key : new String[] {"00", "07", "17", "1818", "20", "3818", "40", "4171", "60", "6161", "80", "8100", "a0", "a10000", "f4", "f5", "f6"}) {
            Judge.cborItem("a2" + key + "00" + key + "00", 1);
            Judge.cborItem("a2" + key + "00" + key + "01", 1);
            Judge.cborItem("a1" + key + "00", 0);
            Judge.cborItem("a1" + key + "a1" + key + "00", 0);
        }
        Judge.cborItem("a3 00 00 01 00 00 00", 1);
        Judge.cborItem("82 a10000 a10000", 0);
        Judge.cbor("a2 01 6161 01 6161", 1);
        Judge.cbor("a2 04 01 04 01", 1);
        Judge.cborHeader("a2 01 05 01 05", 1);
        Judge.cborHeader("a3 01 05 04 4171 04 4171", 1);
    }

    private static void depth() {
        // The map that HEADER or PAYLOAD is, is the first of the 8.
        for (int more = 6; more <= 9; more++) {
            int want = more <= 7 ? 0 : 1;
            Judge.cborItem("81".repeat(more - 1) + "80", want);
            Judge.cborItem("81".repeat(more) + "00", want);
            Judge.cborItem("a100".repeat(more - 1) + "a0", want);
            Judge.cborItem("a100".repeat(more) + "00", want);
            Judge.cborItem("81a100".repeat(more / 2) + (more % 2 == 0 ? "00" : "80"), want);
            Judge.cborItem("83 80 a0" + "81".repeat(more - 1) + "00", want);
            Judge.cbor("a1" + "81".repeat(more) + "00 00", want);
            Judge.cbor("a1" + "a1".repeat(more) + "00" + "00".repeat(more) + "00", want);
        }
        Judge.cborItem("94" + "818181818180".repeat(20), 0);
        Judge.cborItem("94" + "818181818180".repeat(19) + "81818181818180", 1);
        Judge.cborItem("81".repeat(700), 1);
        Judge.cborItem("a1".repeat(700), 1);
        Judge.cborItem("a100".repeat(400), 1);
        Judge.cbor("a1 03" + "81".repeat(6) + "80", 6);
        Judge.cbor("a1 03" + "81".repeat(7) + "80", 1);
        Judge.cborHeader("a2 01 05 02" + "81".repeat(6) + "80", 2);
        Judge.cborHeader("a2 01 05 02" + "81".repeat(7) + "80", 1);
    }

    private static void integers() {
        for (String key : new String[] {"04", "05", "06"}) {
            int within = key.equals("04") ? 0 : 8;
            Judge.cbor("a1" + key + "1b001fffffffffffff", within);
            Judge.cbor("a1" + key + "1b0020000000000000", within);
            for (String value : new String[] {"1b0020000000000001", "1b0020000000000002", "1b0040000000000000", "1b7fffffffffffffff", "1b8000000000000000",
                    "1bffffffffffffffff", "20", "37", "3818", "3b001ffffffffffffe", "3b001fffffffffffff", "3b0020000000000000", "3b7fffffffffffffff",
                    "3b8000000000000000", "3bffffffffffffffff"}) {
                Judge.cbor("a1" + key + value, 6);
                Judge.cborItem(value, 0);
            }
        }
        for (String value : new String[] {"1b0020000000000001", "1b8000000000000005", "1bffffffffffffffff", "3b0020000000000000", "3bfffffffffffffffa", "25",
                "24", "26"}) {
            Judge.cborHeader("a2 01" + value + "04 4171", 2);
        }
        Desk x = new Desk();
        State.ready(x);
        Bench.verify(x, 1, Bench.cose(Bench.hex(Judge.CBOR_HEADER), Bench.hex("a1 04 1b0020000000000000"), 0, Judge.SECRET));
        Bench.due("2^53", x.claim(3), 1L << 53);
    }

    private static byte[] whole() {
        return Bench.cose(Bench.hex(Judge.CBOR_HEADER), Bench.hex("a0"), 0, Judge.SECRET);
    }

    private static void firstBytes() {
        Judge.token(1, whole(), 0);
        for (int at = 0; at < 2; at++) {
            for (int b = 0; b < 256; b++) {
                byte[] other = whole();
                if (b != (other[at] & 255)) {
                    other[at] = (byte) b;
                    Judge.token(1, other, 1);
                }
            }
        }
        Judge.coseHex("", 1);
        Judge.coseHex("d1", 1);
        Judge.coseHex("d184", 1);
        Judge.token(1, Arrays.copyOfRange(whole(), 1, whole().length), 1);
        Judge.token(1, Bench.join(new byte[1], whole()), 1);
        Judge.token(1, Bench.join(Bench.hex("d9d9f7"), whole()), 1);
    }

    private static void headerRow() {
        for (int b = 0; b < 256; b++) {
            // Where a0 stands, ahead of PAYLOAD's row.
            Judge.coseHex("d184 46a20105044171" + byteHex(b) + "41a0 4100", b == 0xa0 ? 5 : 1);
        }
        for (String header : new String[] {"a0", "a20105044171", "40", "4101", "4180", "4160", "41f6", "4140", "66a20105044171", "8101", "f6", "00",
                "47a2010504417100", "47a20105044171a0", "45a201050441", "46a30105044171", "46a10105044171", "4101", "c046a20105044171", "8146a20105044171"}) {
            Judge.coseHex("d184" + header + "a0 41a0 4100", 1);
        }
        Judge.coseHex("d184 41a0 a0 41a0 4100", 2);
        Judge.coseHex("d184 43a10105 a0 41a0 4100", 5);
        Judge.coseHex("d184 46a20105044171 a10000 41a0 4100", 1);
        Judge.coseHex("d184 46a20105044171 41a0 4100", 1);
        Judge.coseHex("d184 46a20105044171 a0a0 41a0 4100", 1);
    }

    private static void payloadRow() {
        for (String payload : new String[] {"a0", "a10700", "40", "4100", "4180", "4160", "41f6", "4141", "61a0", "80", "f6", "00", "42a000", "42a0a0", "41a1", "42a107",
                "44a1070000", "8141a0", "c041a0", "5b00000000000000 01a0", "5bffffffffffffffff", "5b7fffffffffffffff", "5a7fffffff", "5affffffff", "59ffff"}) {
            Judge.coseHex("d184 46a20105044171 a0" + payload + "4100", 1);
        }
        Judge.coseHex("d184 46a20105044171 a0 41a0 4100", 5);
        Judge.coseHex("d184 46a20105044171 a0 43a10700 4100", 5);
        Judge.coseHex("d184 46a20105044171 a0 41a0", 1);
        Judge.coseHex("d184 46a20105044171 a0", 1);
    }

    private static void macRow() {
        byte[] secret = Judge.SECRET;
        byte[] ahead = Bench.hex(AHEAD);
        Judge.token(1, Bench.join(ahead, Bench.row(Bench.mac(0, secret, Bench.hex("84 64 4d414330 46a20105044171 40 41a0")))), 0);
        for (String secured : new String[] {"", "84 63 4d4143 46a20105044171 40 41a0", "84 64 6d616330 46a20105044171 40 41a0", "84 44 4d414330 46a20105044171 40 41a0",
                "83 64 4d414330 46a20105044171 41a0", "84 64 4d414330 46a20105044171 a0 41a0", "84 64 4d414330 a20105044171 40 a0",
                "84 64 4d414330 46a20105044171 40 a0", "85 64 4d414330 46a20105044171 40 41a0", "d1 84 64 4d414330 46a20105044171 40 41a0",
                "84 64 4d414330 46a20105044171 60 41a0", "84 63 4d4143 46a20105044171 41a0", "84 64 4d414330 5806a20105044171 40 41a0",
                "84 64 4d414330 46a20105044171 40 5801a0", AHEAD, "41a0", "84 64 4d414330 46a20105044171 40 41a0 00"}) {
            Judge.token(1, Bench.join(ahead, Bench.row(Bench.mac(0, secret, Bench.hex(secured)))), 5);
        }
        for (String tail : new String[] {"", "00", "60", "6100", "80", "a0", "f6", "58", "41", "4200", "580100", "c04100", "5b", "5bffffffffffffffff00", "814100"}) {
            Judge.coseHex(AHEAD + tail, 1);
        }
        Judge.coseHex(AHEAD + "40", 5);
        // Rows whose length takes two bytes and three are secured with the same heads.
        Judge.cbor("a1 07 5818" + "00".repeat(24), 0);
        Judge.cbor("a1 07 590100" + "00".repeat(256), 0);
        Judge.cborHeader("a3 01 05 04 4171 07 5818" + "00".repeat(24), 0);
        Judge.cborHeader("a3 01 05 04 4171 07 590100" + "00".repeat(256), 0);
    }

    private static void nothingBehind() {
        for (int b = 0; b < 256; b++) {
            Judge.token(1, Bench.join(whole(), new byte[] {(byte) b}), 1);
        }
        Judge.token(1, Bench.join(whole(), whole()), 1);
        for (int size = 0; size < whole().length; size++) {
            Judge.token(1, Arrays.copyOf(whole(), size), 1);
        }
        Judge.token(1, whole(), 0);
        // 1500 bytes of TAPE: a token that takes them all, and one that lacks a byte.
        int room = 1500 - 2 - 7 - 1 - 3 - 34 - 5;
        byte[] most = Bench.cose(Bench.hex(Judge.CBOR_HEADER), Bench.join(Bench.hex("a1 07"), Bench.head(2, room), new byte[room]), 0, Judge.SECRET);
        Bench.due("the longest token", most.length, 1500);
        Judge.token(1, most, 0);
        Judge.token(1, Arrays.copyOf(most, 1499), 1);
    }

    private static void alg() {
        for (int number = 0; number < 24; number++) {
            Judge.cborHeader("a2 01" + byteHex(number) + "04 4171", number == 5 ? 0 : number == 7 ? 4 : 2);
        }
        State.Calls two = x -> {
            State.ready(x);
            Bench.addKey(x, 1, "r", Judge.SECRET);
        };
        Judge.due("7 of ALG 1", two, 1, Bench.cose(Bench.hex("a2 01 07 04 4172"), Bench.hex("a0"), 1, Judge.SECRET), 0);
        Judge.due("5 of ALG 1", two, 1, Bench.cose(Bench.hex("a2 01 05 04 4172"), Bench.hex("a0"), 0, Judge.SECRET), 4);
        for (String value : new String[] {"4105", "6135", "654853323536", "8105", "80", "a0", "a10105", "f4", "f5", "f6", "24", "26", "1818", "190105", "1a00010005",
                "1b0000000100000005", "40", "60"}) {
            Judge.cborHeader("a2 01" + value + "04 4171", 2);
        }
        Judge.cborHeader("a1 04 4171", 2);
        Judge.cborHeader("a2 04 4171 20 05", 2);
        Judge.cborHeader("a2 00 05 04 4171", 2);
        Judge.cborHeader("a2 04 4171 4101 05", 2);
        Judge.cborHeader("a2 04 4171 07 a10105", 2);
    }

    private static void kid() {
        Judge.cborHeader("a2 01 05 04 4171", 0);
        for (String value : new String[] {"40", "4151", "4172", "427171", "42 7100", "42 2071", "41f1", "5818" + "71".repeat(24), "6171", "60", "00", "1871", "20", "80",
                "814171", "a0", "f4", "f5", "f6"}) {
            Judge.cborHeader("a2 01 05 04" + value, 3);
        }
        State.Calls longest = x -> Bench.addKey(x, 0, "\"\\ ~5678", Judge.SECRET);
        Judge.due("a KID of 8", longest, 1, Bench.cose(Bench.hex("a2 01 05 04 48 225c207e35363738"), Bench.hex("a0"), 0, Judge.SECRET), 0);
        Judge.due("its first 7", longest, 1, Bench.cose(Bench.hex("a2 01 05 04 47 225c207e353637"), Bench.hex("a0"), 0, Judge.SECRET), 3);
        Judge.due("9 bytes", longest, 1, Bench.cose(Bench.hex("a2 01 05 04 49 225c207e3536373800"), Bench.hex("a0"), 0, Judge.SECRET), 3);
    }

    private static void crit() {
        for (String value : new String[] {"00", "20", "1bffffffffffffffff", "40", "4101", "60", "6161", "80", "8104", "a0", "a10000", "f4", "f5", "f6"}) {
            Judge.cborHeader("a3 01 05 02" + value + "04 4171", 2);
            Judge.cborHeader("a2 01 05 02" + value, 2);
            Judge.cborHeader("a3 01 05 03" + value + "04 4171", 0);
            Judge.cborHeader("a3 01 05 04 4171 4102" + value, 0);
            Judge.cborHeader("a3 01 05 04 4171 07 a102" + value, 0);
        }
    }

    private static void issAndSub() {
        for (String key : new String[] {"01", "02"}) {
            for (String value : new String[] {"00", "20", "40", "4161", "80", "816161", "a0", "f4", "f5", "f6", "1bffffffffffffffff"}) {
                Judge.cbor("a1" + key + value, 6);
                Judge.cbor("a1 07 a1" + key + value, 0);
            }
            for (String value : new String[] {"60", "6161", "6120", "617e"}) {
                Judge.cbor("a1" + key + value, 0);
            }
        }
    }

    private static void aud() {
        for (String value : new String[] {"00", "20", "40", "4161", "a0", "a161616161", "f4", "f6", "8100", "8140", "814161", "81f6", "8180", "81816161", "81a0", "82616100",
                "82006161", "8361 61 f6 6162", "82616180"}) {
            Judge.cbor("a1 03" + value, 6);
            Judge.cborItem(value, 0);
        }
        for (String value : new String[] {"60", "6161", "80", "8160", "816161", "8261616161", "83606060"}) {
            Judge.cbor("a1 03" + value, 0);
        }
    }

    private static void times() {
        for (String key : new String[] {"04", "05", "06"}) {
            for (String value : new String[] {"20", "21", "37", "3818", "40", "4101", "60", "6131", "80", "8101", "a0", "f4", "f5", "f6"}) {
                Judge.cbor("a1" + key + value, 6);
            }
        }
        Judge.cbor("a1 04 00", 7);
        Judge.cbor("a1 04 01", 0);
        Judge.cbor("a1 05 00", 0);
        Judge.cbor("a1 05 01", 8);
        Judge.cbor("a1 06 00", 0);
        Judge.cbor("a1 06 01", 8);
    }

    private static void others() {
        for (String key : new String[] {"00", "07", "17", "1818", "190100", "1bffffffffffffffff", "20", "23", "40", "4104", "60", "6134", "63657870", "80", "8104", "a0",
                "a10404", "f4", "f5", "f6"}) {
            for (String value : new String[] {"f6", "20", "4101", "80", "a10420"}) {
                Judge.cbor("a1" + key + value, 0);
            }
            boolean ahead = key.equals("00");
            Judge.cborHeader("a3" + (ahead ? key + "f6" : "") + "01 05 04 4171" + (ahead ? "" : key + "f6"), 0);
        }
        Judge.cbor("a2 03 6161 07 981e" + "6161".repeat(30), 0);
        Judge.cborHeader("a6 00 f6 01 05 03 f6 04 4171 05 f6 06 f6", 0);
        Desk x = new Desk();
        State.ready(x);
        Bench.verify(x, 1, Bench.cose(Bench.hex(Judge.CBOR_HEADER), Bench.hex("a3 00 6161 07 a3 01 6161 03 6161 04 09 20 09"), 0, Judge.SECRET));
        Bench.due("it was ACCEPTED", x.count(2), 2);
        for (int claim = 0; claim < 6; claim++) {
            Bench.due("has(" + claim + ") of other keys", x.has(claim), -1);
        }
    }
}
