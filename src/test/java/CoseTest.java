/** Promise 14 of COSE_Mac0: its form (Terms III), HEADER, MAC, and CLAIMS as told (reasons 1 to 6). */
public final class CoseTest {
    private static final byte[] SECRET = Bench.ascii("secret");
    private static final String HEADER = "a1 01 05";

    public static void main(String[] args) {
        frame();
        items();
        heads();
        texts();
        keysInOrder();
        depth();
        headers();
        macs();
        claims();
        audiences();
        longest();
        oneDeskForMany();
        Bench.close();
    }

    private static Desk desk() {
        Desk x = new Desk();
        Bench.addKey(x, 0, "q", SECRET);
        return x;
    }

    private static void due(String what, Desk x, byte[] token, int want) {
        int accepted = x.count(2);
        int refused = x.count(3);
        Bench.due(what, Bench.verify(x, 1, token), want);
        Bench.due(what + ": the TAPE is empty", x.count(6), 0);
        Bench.due(what + ": ACCEPTED", x.count(2) - accepted, want == 0 ? 1 : 0);
        Bench.due(what + ": refused", x.count(3) - refused, want == 0 ? 0 : 1);
    }

    private static void duePayload(String payload, int want) {
        due("payload " + payload, desk(), Bench.cose(Bench.hex(HEADER), Bench.hex(payload), 0, SECRET), want);
    }

    private static void dueHeader(String header, int want) {
        due("header " + header, desk(), Bench.cose(Bench.hex(header), Bench.hex("a0"), 0, SECRET), want);
    }

    /** An item that means nothing, as the value of a key that means nothing. */
    private static void dueItem(String item, int want) {
        duePayload("a1 07" + item, want);
    }

    private static void frame() {
        Desk x = desk();
        byte[] token = Bench.cose(Bench.hex(HEADER), Bench.hex("a0"), 0, SECRET);
        due("a token", x, token, 0);
        for (int size = 0; size < token.length; size++) {
            due("its first " + size, desk(), java.util.Arrays.copyOf(token, size), 1);
        }
        due("a byte behind", x, Bench.join(token, new byte[1]), 1);
        due("a byte ahead", x, Bench.join(new byte[1], token), 1);
        String tail = "41 00";
        due("a short MAC", x, Bench.hex("d184 43a10105 a0 41a0" + tail), 5);
        due("no MAC", x, Bench.hex("d184 43a10105 a0 41a0 40"), 5);
        String[] bad = {
            "d284 43a10105 a0 41a0", "d183 43a10105 a0 41a0", "d185 43a10105 a0 41a0", "84 43a10105 a0 41a0", "d8 11 84 43a10105 a0 41a0",
            "d1 9804 43a10105 a0 41a0", "d19f 43a10105 a0 41a0", "d184 a10105 a0 41a0", "d184 63a10105 a0 41a0", "d184 40 a0 41a0",
            "d184 5803a10105 a0 41a0", "d184 590003a10105 a0 41a0", "d184 5f43a10105ff a0 41a0", "d184 43a10105 a1 0000 41a0",
            "d184 43a10105 40 41a0", "d184 43a10105 80 41a0", "d184 43a10105 b800 41a0", "d184 43a10105 f6 41a0", "d184 43a10105 a0 40",
            "d184 43a10105 a0 a0", "d184 43a10105 a0 f6", "d184 43a10105 a0 61a0", "d184 43a10105 a0 5801a0", "d184 44a1010500 a0 41a0",
            "d184 44a10105a0 a0 41a0", "d184 42a101 a0 41a0", "d184 4101 a0 41a0", "d184 4180 a0 41a0", "d184 41f6 a0 41a0", "d184 43830105 a0 41a0",
            "d184 43a10105 a0 42a000", "d184 43a10105 a0 4101", "d184 43a10105 a0 4180", "d184 43a10105 a0 4140", "d184 43a10105 a0 41f6",
            "d184 43a10105 a0 4460a0a0a0", "d184 43a10105 a0 5bffffffffffffffff", "d184 43a10105 a0 5b7fffffffffffffff",
            "d184 43a10105 a0 5a7fffffff", "d184 43a10105 a0 5affffffff", "d184 43a10105 a0 59ffff",
        };
        for (String token1 : bad) {
            due("frame " + token1, desk(), Bench.hex(token1 + tail), 1);
        }
        String[] tails = {"", "6100", "00", "f6", "80", "58", "580100", "5f4100ff", "4100 00", "42 00", "5bffffffffffffffff00", "a0", "40 40"};
        for (String end : tails) {
            due("tail " + end, desk(), Bench.hex("d184 43a10105 a0 41a0" + end), 1);
        }
        due("a JWS", x, Bench.jws("{\"alg\":\"HS256\"}", "{}", 0, SECRET), 1);
        Bench.due("a COSE as JWS", Bench.verify(x, 0, token), 1);
    }

    private static void items() {
        String[] good = {"00", "17", "20", "37", "1818", "18ff", "3818", "38ff", "190100", "19ffff", "390100", "1a00010000", "1affffffff",
            "3a00010000", "1b0000000100000000", "1bffffffffffffffff", "3b0000000100000000", "3bffffffffffffffff", "40", "4100", "43ff00ff",
            "60", "6120", "617e", "80", "8100", "8318180060", "a0", "a10000", "f4", "f5", "f6", "84f4f5f6a0", "a1a0a0", "a18080", "a14000",
            "a1f600", "a1f4a1f5f6"};
        for (String item : good) {
            dueItem(item, 0);
        }
        String[] bad = {"f7", "f0", "e0", "f3", "f8ff", "f820", "f814", "f90000", "fa00000000", "fb0000000000000000", "ff", "fc", "c000", "c100",
            "d100", "d81800", "5f4100ff", "7f6161ff", "9f00ff", "bf0000ff", "9fff", "bfff", "1c", "1d", "1e", "1f", "3c", "3f", "5c", "7c", "9c",
            "bc", "", "41", "4200", "61", "81", "820000 00", "8200", "a100", "a2000001", "18", "19", "1901", "1a000100", "1b00000001000000",
            "5b8000000000000000", "7bffffffffffffffff", "9bffffffffffffffff", "bbffffffffffffffff", "9a00010000", "ba00010000", "9affffffff",
            "9b0000000100000000", "bb0000000100000000", "81f7", "81c000", "a100f7", "a1f700", "a1c00000", "00 00"};
        for (String item : bad) {
            dueItem(item, 1);
        }
        for (int info = 28; info < 32; info++) {
            for (int type = 0; type < 8; type++) {
                dueItem(String.format("%02x", type << 5 | info) + "ff".repeat(1 << (info - 24)), 1);
                dueItem(String.format("%02x", type << 5 | info) + "00".repeat(1 << (info - 24)), 1);
            }
        }
        for (int first = 0; first < 256; first++) {
            boolean whole = first < 0x18 || first >= 0x20 && first < 0x38 || first == 0x40 || first == 0x60 || first == 0x80 || first == 0xa0
                    || first >= 0xf4 && first <= 0xf6;
            dueItem(String.format("%02x", first), whole ? 0 : 1);
        }
    }

    private static void heads() {
        String[] long1 = {"1800", "1817", "3800", "3817", "190000", "1900ff", "3900ff", "1a00000000", "1a0000ffff", "3a0000ffff",
            "1b0000000000000000", "1b00000000ffffffff", "3b00000000ffffffff", "5800", "580100", "7800", "780161", "9800", "980100", "b800",
            "b8010000", "590001 00", "790001 61", "99000100", "b900010000", "5a00000000", "5b0000000000000000", "9a00000000"};
        for (String item : long1) {
            dueItem(item, 1);
        }
        dueItem("5818" + "00".repeat(24), 0);
        dueItem("57" + "00".repeat(23), 0);
        dueItem("5817" + "00".repeat(23), 1);
        dueItem("59 0018" + "00".repeat(24), 1);
        dueItem("58ff" + "00".repeat(255), 0);
        dueItem("5900ff" + "00".repeat(255), 1);
        dueItem("590100" + "00".repeat(256), 0);
        dueItem("7818" + "61".repeat(24), 0);
        dueItem("790100" + "61".repeat(256), 0);
        dueItem("9818" + "00".repeat(24), 0);
        dueItem("990100" + "00".repeat(256), 0);
        dueItem("9818" + "00".repeat(23), 1);
        dueItem("9818" + "00".repeat(25), 1);
        StringBuilder pairs = new StringBuilder();
        for (int i = 0; i < 24; i++) {
            pairs.append(i < 24 ? String.format("%02x", i) : "").append("f6");
        }
        dueItem("b818" + pairs, 0);
        dueItem("b819" + pairs, 1);
        dueItem("b819" + pairs + "1818f6", 0);
    }

    private static void texts() {
        for (int b = 0; b < 256; b++) {
            String sign = String.format("%02x", b);
            dueItem("63 61" + sign + "61", b >= 32 && b <= 126 ? 0 : 1);
            dueItem("61" + sign, b >= 32 && b <= 126 ? 0 : 1);
            dueItem("43 61" + sign + "61", 0);
            duePayload("a1 61" + sign + "f6", b >= 32 && b <= 126 ? 0 : 1);
        }
    }

    private static void keysInOrder() {
        String[] good = {"a2 00f6 07f6", "a3 07f6 20f6 40f6", "a2 17f6 1818f6", "a2 1818f6 1819f6", "a2 18ff00 19010000", "a2 20f6 6161f6",
            "a2 1864f6 20f6", "a2 6161f6 626161f6", "a2 617af6 626161f6", "a2 6261 61f6 626162f6", "a3 80f6 8100f6 8101f6", "a2 a0f6 a10000f6",
            "a3 f4f6 f5f6 f6f6", "a2 07f6 60f6", "a2 07 a2 00f6 01f6 08f6", "a2 626161f6 80f6", "a2 19ffff00 1a0001000000", "a2 37f6 3818f6"};
        for (String payload : good) {
            duePayload(payload, 0);
        }
        String[] bad = {"a2 07f6 07f6", "a2 07f6 00f6", "a3 00f6 07f6 00f6", "a2 20f6 07f6", "a2 20f6 1864f6", "a2 626161f6 617af6",
            "a2 626162f6 626161f6", "a2 6161f6 6161f6", "a2 60f6 07f6", "a2 60f6 60f6", "a2 8101f6 8100f6", "a2 8100f6 8100f6", "a2 f5f6 f4f6",
            "a2 f6f6 f6f6", "a1 07 a2 01f6 00f6", "a1 07 a2 00f6 00f6", "a1 07 81 a2 01f6 00f6", "a1 a2 01f6 00f6 f6", "a2 a10000f6 a0f6",
            "a2 1818f6 17f6", "a2 190100f6 18fff6", "a3 07f6 08f6 08f6"};
        for (String payload : bad) {
            duePayload(payload, 1);
        }
        dueHeader("a2 04 4171 01 05", 1);
        dueHeader("a2 01 05 01 05", 1);
    }

    private static void depth() {
        dueItem("81".repeat(6) + "80", 0);
        dueItem("81".repeat(7) + "80", 1);
        dueItem("81".repeat(7) + "00", 0);
        dueItem("81".repeat(8) + "00", 1);
        dueItem("a100".repeat(6) + "a0", 0);
        dueItem("a100".repeat(7) + "a0", 1);
        dueItem("81a100".repeat(3) + "80", 0);
        dueItem("81a100".repeat(3) + "8180", 1);
        duePayload("a1 " + "81".repeat(6) + "80 00", 0);
        duePayload("a1 " + "81".repeat(7) + "80 00", 1);
        duePayload("a1 " + "a1".repeat(6) + "a0" + "00".repeat(7), 0);
        duePayload("a1 " + "a1".repeat(7) + "a0" + "00".repeat(8), 1);
        dueItem("8a" + "80".repeat(10), 0);
        dueItem("81".repeat(1000), 1);
        dueItem("a1".repeat(1000), 1);
        dueHeader("a2 01 05 07" + "81".repeat(6) + "80", 0);
        dueHeader("a2 01 05 07" + "81".repeat(7) + "80", 1);
    }

    private static void headers() {
        String[] second = {"a0", "a1 01 00", "a1 01 04", "a1 01 06", "a1 01 24", "a1 01 26", "a1 01 4105", "a1 01 6135", "a1 01 8105", "a1 01 f6",
            "a1 01 a0", "a1 01 654853323536", "a2 01 05 02 80", "a2 01 05 02 f6", "a2 01 05 02 814100", "a2 02 00 04 4171", "a1 04 4171",
            "a1 00 05", "a1 20 05", "a1 6101 05".replace("6101", "6131"), "a3 01 05 02 a0 04 00", "a1 01 1b8000000000000005"};
        for (String header : second) {
            dueHeader(header, 2);
        }
        String[] third = {"a2 01 05 04 40", "a2 01 05 04 4172", "a2 01 05 04 427171", "a2 01 05 04 6171", "a2 01 05 04 00", "a2 01 05 04 f6",
            "a2 01 05 04 814171", "a2 01 07 04 4151", "a2 01 05 04 41f1", "a2 01 05 04 a0"};
        for (String header : third) {
            dueHeader(header, 3);
        }
        dueHeader("a1 01 07", 4);
        dueHeader("a2 01 07 04 4171", 4);
        String[] good = {"a1 01 05", "a2 01 05 04 4171", "a3 00 f6 01 05 04 4171", "a2 01 05 03 00", "a2 01 05 05 80", "a2 01 05 06 f6",
            "a2 01 05 21 00", "a2 01 05 4104 00", "a2 01 05 6132 80", "a2 01 05 1818 a1 02 04"};
        for (String header : good) {
            dueHeader(header, 0);
        }
        Desk none = new Desk();
        due("no KEY", none, Bench.cose(Bench.hex(HEADER), Bench.hex("a0"), 0, SECRET), 3);
        Desk two = desk();
        Bench.addKey(two, 1, "rr", Bench.ascii("other"));
        due("two KEYS, no kid", two, Bench.cose(Bench.hex(HEADER), Bench.hex("a0"), 0, SECRET), 3);
        due("two KEYS, first kid", two, Bench.cose(Bench.hex("a2 01 05 04 4171"), Bench.hex("a0"), 0, SECRET), 0);
        Bench.due("the first's number", two.count(0), 0);
        due("two KEYS, second kid", two, Bench.cose(Bench.hex("a2 01 07 04 427272"), Bench.hex("a0"), 1, Bench.ascii("other")), 0);
        Bench.due("the second's number", two.count(0), 1);
        due("the second's other alg", two, Bench.cose(Bench.hex("a2 01 05 04 427272"), Bench.hex("a0"), 0, Bench.ascii("other")), 4);
        due("the second by the first's secret", two, Bench.cose(Bench.hex("a2 01 07 04 427272"), Bench.hex("a0"), 1, SECRET), 5);
        due("a broken PAYLOAD ahead of all", two, Bench.cose(Bench.hex("a0"), Bench.hex("a1"), 0, SECRET), 1);
    }

    private static void macs() {
        byte[] token = Bench.cose(Bench.hex(HEADER), Bench.hex("a1 07 00"), 0, SECRET);
        for (int i = token.length - 32; i < token.length; i++) {
            byte[] other = token.clone();
            other[i] ^= 1 << (i % 8);
            due("MAC byte " + i, desk(), other, 5);
        }
        byte[] ahead = java.util.Arrays.copyOf(token, token.length - 34);
        byte[] mac = java.util.Arrays.copyOfRange(token, token.length - 32, token.length);
        for (int size = 0; size < 70; size++) {
            due("MAC of " + size, desk(), Bench.join(ahead, Bench.row(java.util.Arrays.copyOf(mac, size))), size == 32 ? 0 : 5);
        }
        byte[] other = token.clone();
        other[token.length - 35] ^= 1;
        due("another PAYLOAD", desk(), other, 5);
        due("the MAC ahead of the claims", desk(), Bench.cose(Bench.hex(HEADER), Bench.hex("a1 04 f6"), 0, Bench.ascii("else")), 5);
    }

    private static String texted(int size) {
        StringBuilder text = new StringBuilder();
        for (byte b : Bench.text("a".repeat(size))) {
            text.append(String.format("%02x", b));
        }
        return text.toString();
    }

    private static void claims() {
        for (String key : new String[] {"01", "02"}) {
            for (String value : new String[] {"f6", "00", "20", "80", "816161", "a0", "f5", "40", "4161", texted(201)}) {
                duePayload("a1" + key + value, 6);
            }
            for (String value : new String[] {"60", "6161", texted(200)}) {
                duePayload("a1" + key + value, 0);
            }
        }
        duePayload("a3 01" + texted(200) + "02" + texted(200) + "03" + texted(200), 0);
        for (String key : new String[] {"04", "05", "06"}) {
            String[] bad = {"f6", "6131", "4101", "8101", "80", "a0", "f4", "20", "37", "3818", "1b0020000000000001", "1b8000000000000000",
                "1bffffffffffffffff", "3b001fffffffffffff", "3b0020000000000000", "3bffffffffffffffff", "60", "40"};
            for (String value : bad) {
                duePayload("a1" + key + value, 6);
            }
        }
        duePayload("a1 04 1b0020000000000000", 0);
        duePayload("a1 04 01", 0);
        duePayload("a1 04 00", 7);
        duePayload("a2 05 00 06 00", 0);
        duePayload("a1 05 1b0020000000000000", 8);
        duePayload("a1 06 1b0020000000000000", 8);
        duePayload("a1 00 f6", 0);
        duePayload("a2 07 f6 20 f6", 0);
        duePayload("a1 4104 f6", 0);
        duePayload("a1 8104 f6", 0);
        duePayload("a1 6134 f6", 0);
        duePayload("a1 07 a6 01f6 02f6 03f6 04f6 05f6 06f6", 0);
        duePayload("a1 a1 04 f6 a1 04 f6", 0);
        duePayload("a2 02 00 04 00", 6);
    }

    private static void audiences() {
        String[] bad = {"f6", "00", "20", "a0", "f5", "40", "4161", "8100", "82616100", "82f66161", "81816161", "82616180", "81a0", "814161",
            "8140", texted(201), "82" + texted(101) + texted(100), "82" + texted(200) + "6161", "95" + "6161".repeat(21), "95" + "60".repeat(21),
            "9864" + "60".repeat(100)};
        for (String value : bad) {
            duePayload("a1 03" + value, 6);
        }
        String[] good = {"80", "60", "8160", texted(200), "81" + texted(200), "82" + texted(100) + texted(100), "94" + texted(10).repeat(20),
            "94" + "60".repeat(20), "82" + texted(200) + "60", "8261616161"};
        for (String value : good) {
            duePayload("a1 03" + value, 0);
        }
        duePayload("a2 03 6161 07 981e" + "6161".repeat(30), 0);
        duePayload("a2 03 816161 07 8100", 0);
    }

    /** What earlier tokens held takes no room from later ones. */
    private static void oneDeskForMany() {
        Desk x = desk();
        for (int i = 0; i < 7; i++) {
            byte[] payload = Bench.hex("a2 01" + texted(200) + "02" + texted(200));
            due("texts", x, Bench.cose(Bench.hex(HEADER), payload, 0, SECRET), 0);
            Bench.due("the last sign", x.sign(1, 0, 199), 'a');
            due("broken", x, Bench.cose(Bench.hex(HEADER), java.util.Arrays.copyOf(payload, payload.length - 1), 0, SECRET), 1);
        }
    }

    private static void longest() {
        // 1500 bytes in all: d1 84, HEADER 4, a0, PAYLOAD's head 3, MAC 34.
        int room = 1500 - 2 - 4 - 1 - 3 - 34;
        String zeros = "a1 07 99" + String.format("%04x", room - 5) + "00".repeat(room - 5);
        byte[] token = Bench.cose(Bench.hex(HEADER), Bench.hex(zeros), 0, SECRET);
        Bench.due("its length", token.length, 1500);
        due("the longest", desk(), token, 0);
        due("its first 1499", desk(), java.util.Arrays.copyOf(token, 1499), 1);
        String text = "a1 07 79" + String.format("%04x", room - 5) + "61".repeat(room - 5);
        due("the longest text", desk(), Bench.cose(Bench.hex(HEADER), Bench.hex(text), 0, SECRET), 0);
        int texts = room - 5 - 3;
        String list = "a1 03 99" + String.format("%04x", texts) + "60".repeat(texts);
        due("the most texts", desk(), Bench.cose(Bench.hex(HEADER), Bench.hex(list), 0, SECRET), 6);
    }
}
