/** Promises 11, 12, 13, and what verify() asks of the CLAIMS' values (reasons 7 to 10, and the order of all). */
public final class PolicyTest {
    private static final byte[] SECRET = Bench.ascii("secret");
    private static final long MOST = 1L << 53;

    public static void main(String[] args) {
        nowEdges();
        policyEdges();
        wantsEdges();
        expired();
        expWanted();
        early();
        issuers();
        audiences();
        order();
        Bench.close();
    }

    private static Desk desk() {
        Desk x = new Desk();
        Bench.addKey(x, 0, "q", SECRET);
        return x;
    }

    private static void due(Desk x, String payload, int want) {
        Bench.due("payload " + payload, Bench.verify(x, 0, Bench.jws("{\"alg\":\"HS256\"}", payload, 0, SECRET)), want);
    }

    private static void dueCose(Desk x, String payload, int want) {
        Bench.due("payload " + payload, Bench.verify(x, 1, Bench.cose(Bench.hex("a10105"), Bench.hex(payload), 0, SECRET)), want);
    }

    private static void nowEdges() {
        Desk x = desk();
        due(x, "{\"iat\":1}", 8);
        due(x, "{\"iat\":0}", 0);
        Bench.due("now(5)", x.now(5), true);
        Bench.due("now(-1)", x.now(-1), false);
        Bench.due("now(2^53 + 1)", x.now(MOST + 1), false);
        Bench.due("now(least)", x.now(Long.MIN_VALUE), false);
        Bench.due("now(most)", x.now(Long.MAX_VALUE), false);
        due(x, "{\"iat\":5,\"exp\":6}", 0);
        due(x, "{\"iat\":6}", 8);
        due(x, "{\"exp\":5}", 7);
        Bench.due("now(2^53)", x.now(MOST), true);
        due(x, "{\"iat\":9007199254740992}", 0);
        due(x, "{\"exp\":9007199254740992}", 7);
        Bench.due("now(0)", x.now(0), true);
        due(x, "{\"iat\":1}", 8);
        due(x, "{\"exp\":1}", 0);
    }

    private static void policyEdges() {
        Desk x = desk();
        x.now(1000);
        Bench.due("policy(600, false)", x.policy(600, false), true);
        Bench.due("policy(-1, true)", x.policy(-1, true), false);
        Bench.due("policy(601, true)", x.policy(601, true), false);
        Bench.due("policy(least, true)", x.policy(Integer.MIN_VALUE, true), false);
        Bench.due("policy(most, true)", x.policy(Integer.MAX_VALUE, true), false);
        due(x, "{}", 0);
        due(x, "{\"exp\":401}", 0);
        due(x, "{\"exp\":400}", 7);
        due(x, "{\"nbf\":1600}", 0);
        due(x, "{\"nbf\":1601}", 8);
        Bench.due("policy(0, true)", x.policy(0, true), true);
        due(x, "{}", 7);
        due(x, "{\"exp\":1001}", 0);
        due(x, "{\"exp\":1000}", 7);
        Bench.due("policy(0, false)", x.policy(0, false), true);
        due(x, "{}", 0);
    }

    private static void refuseWants(Desk x, int what, String text) {
        Bench.put(x, text);
        Bench.due("no wants(" + what + ") " + text, x.wants(what), -1);
        Bench.due("the TAPE is empty all the same", x.count(6), 0);
    }

    private static void setWants(Desk x, int what, String text) {
        Bench.put(x, text);
        Bench.due("wants(" + what + ") " + text, x.wants(what), text.length());
        Bench.due("the TAPE is empty", x.count(6), 0);
    }

    private static void wantsEdges() {
        for (int what = 0; what < 2; what++) {
            String name = what == 0 ? "iss" : "aud";
            int reason = 9 + what;
            Desk x = desk();
            due(x, "{}", 0);
            String forty = " ~" + "a".repeat(38);
            setWants(x, what, forty);
            refuseWants(x, what, forty + "a");
            refuseWants(x, what, "\u001f");
            refuseWants(x, what, "a\u007f");
            refuseWants(x, what, "\u0080");
            refuseWants(x, what, "a".repeat(1500));
            refuseWants(x, 2, "a");
            refuseWants(x, -1, "a");
            refuseWants(x, 2, "");
            due(x, "{\"" + name + "\":\"" + forty + "\"}", 0);
            due(x, "{\"" + name + "\":\"" + forty + "a\"}", reason);
            due(x, "{\"" + name + "\":\"\"}", reason);
            due(x, "{}", reason);
            setWants(x, what, "b");
            due(x, "{\"" + name + "\":\"b\"}", 0);
            due(x, "{\"" + name + "\":\"" + forty + "\"}", reason);
            setWants(x, what, "");
            due(x, "{\"" + name + "\":\"" + forty + "\"}", 0);
            due(x, "{}", 0);
        }
    }

    private static void expired() {
        Desk x = desk();
        x.now(100);
        due(x, "{\"exp\":100}", 7);
        due(x, "{\"exp\":99}", 7);
        due(x, "{\"exp\":101}", 0);
        dueCose(x, "a1 04 1864", 7);
        dueCose(x, "a1 04 1865", 0);
        x.policy(10, false);
        due(x, "{\"exp\":90}", 7);
        due(x, "{\"exp\":91}", 0);
        x.now(5);
        due(x, "{\"exp\":0}", 0);
        x.now(10);
        due(x, "{\"exp\":0}", 7);
        x.now(9);
        due(x, "{\"exp\":0}", 0);
    }

    private static void expWanted() {
        Desk x = desk();
        x.policy(0, true);
        due(x, "{\"iss\":\"a\"}", 7);
        dueCose(x, "a0", 7);
        due(x, "{\"exp\":1}", 0);
        due(x, "{\"exp\":null}", 6);
    }

    private static void early() {
        Desk x = desk();
        x.now(100);
        for (String name : new String[] {"nbf", "iat"}) {
            x.policy(0, false);
            due(x, "{\"" + name + "\":100}", 0);
            due(x, "{\"" + name + "\":101}", 8);
            x.policy(1, false);
            due(x, "{\"" + name + "\":101}", 0);
            due(x, "{\"" + name + "\":102}", 8);
        }
        due(x, "{\"nbf\":101,\"iat\":102}", 8);
        due(x, "{\"nbf\":102,\"iat\":101}", 8);
        due(x, "{\"nbf\":0,\"iat\":0}", 0);
        dueCose(x, "a1 05 1865", 0);
        dueCose(x, "a1 05 1866", 8);
        dueCose(x, "a1 06 1865", 0);
        dueCose(x, "a1 06 1866", 8);
    }

    private static void issuers() {
        Desk x = desk();
        setWants(x, 0, "a\"b");
        due(x, "{\"iss\":\"a\\\"b\"}", 0);
        due(x, "{\"iss\":\"\\u0061\\u0022\\u0062\"}", 0);
        due(x, "{\"iss\":\"a\\\"\"}", 9);
        due(x, "{\"iss\":\"a\\\"bb\"}", 9);
        due(x, "{\"iss\":\"A\\\"b\"}", 9);
        due(x, "{\"iss\":\"\\u0161\\\"b\"}", 9);
        due(x, "{\"sub\":\"a\\\"b\"}", 9);
        due(x, "{\"x\":{\"iss\":\"a\\\"b\"}}", 9);
        dueCose(x, "a1 01 63612262", 0);
        dueCose(x, "a1 01 63612263", 9);
        dueCose(x, "a1 02 63612262", 9);
    }

    private static void audiences() {
        Desk x = desk();
        setWants(x, 1, "a");
        due(x, "{\"aud\":\"a\"}", 0);
        due(x, "{\"aud\":\"b\"}", 10);
        due(x, "{\"aud\":[]}", 10);
        due(x, "{\"aud\":[\"a\"]}", 0);
        due(x, "{\"aud\":[\"b\",\"a\"]}", 0);
        due(x, "{\"aud\":[\"b\",\"\",\"aa\",\"A\"]}", 10);
        due(x, "{\"aud\":[" + "\"b\",".repeat(19) + "\"a\"]}", 0);
        due(x, "{\"aud\":[" + "\"b\",".repeat(20) + "\"a\"]}", 6);
        due(x, "{\"aud\":[[\"a\"]]}", 6);
        due(x, "{\"sub\":\"a\"}", 10);
        due(x, "{\"x\":[\"a\"],\"aud\":\"b\",\"y\":[\"a\"]}", 10);
        dueCose(x, "a1 03 6161", 0);
        dueCose(x, "a1 03 6162", 10);
        dueCose(x, "a1 03 80", 10);
        dueCose(x, "a1 03 8261626161", 0);
        dueCose(x, "a0", 10);
    }

    /** Each token has all that is wrong from a reason on: the first one is told. */
    private static void order() {
        Desk x = desk();
        Bench.addKey(x, 1, "r", SECRET);
        x.now(100);
        x.policy(0, true);
        setWants(x, 0, "i");
        setWants(x, 1, "a");
        String[] headers = {"{\"alg\":\"x\",\"kid\":1}", "{\"alg\":\"HS256\",\"kid\":\"z\"}", "{\"alg\":\"HS256\",\"kid\":\"r\"}"};
        String all = "{\"sub\":1,\"exp\":1,\"nbf\":101}";
        byte[] other = Bench.ascii("else");
        Bench.due("from 1 on", Bench.verify(x, 0, Bench.jws(headers[0], all + ",", 0, other)), 1);
        for (int i = 0; i < 3; i++) {
            Bench.due("from " + (i + 2) + " on", Bench.verify(x, 0, Bench.jws(headers[i], all, 0, other)), i + 2);
        }
        String header = "{\"alg\":\"HS256\",\"kid\":\"q\"}";
        Bench.due("from 5 on", Bench.verify(x, 0, Bench.jws(header, all, 0, other)), 5);
        String[] payloads = {all, "{\"exp\":1,\"nbf\":101}", "{\"exp\":101,\"nbf\":101}", "{\"exp\":101,\"nbf\":100}",
            "{\"exp\":101,\"iss\":\"i\"}", "{\"exp\":101,\"iss\":\"i\",\"aud\":\"a\"}"};
        for (int i = 0; i < payloads.length; i++) {
            int want = i == 5 ? 0 : i + 6;
            Bench.due("from " + want + " on", Bench.verify(x, 0, Bench.jws(header, payloads[i], 0, SECRET)), want);
        }
    }
}
