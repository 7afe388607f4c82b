import java.util.Base64;

/** Tokens and claims that others have published: they were not made from our own reading of the document. */
public final class PublishedTest {
    private static final int JWS = 0;
    private static final int COSE = 1;
    /** RFC 8392, appendix A.1, behind the map's head and ahead of its last key (7, cti). */
    private static final String RFC8392_CLAIMS = "0175636f61703a2f2f61732e6578616d706c652e636f6d02656572696b77"
            + "037818636f61703a2f2f6c696768742e6578616d706c652e636f6d041a5612aeb0051a5610d9f0061a5610d9f0";
    private static final String RFC8392_CTI = "07420b71";

    public static void main(String[] args) {
        rfc7515();
        otherJws();
        rfc8392Verified();
        rfc8392Issued();
        Bench.close();
    }

    /** RFC 7515, appendix A.1 (RFC 7519, section 3.1): blanks in the JSON, no kid, a member that means nothing. */
    private static void rfc7515() {
        byte[] secret = Base64.getUrlDecoder().decode(
                "AyM1SysPpbyDfgZld3umj1qzKObwVMkoqQ-EstJQLr_T-1qS0gZH75aKtMN3Yj0iPS4hcgUuTwjAzZr1Z9CAow");
        byte[] token = Bench.ascii("eyJ0eXAiOiJKV1QiLA0KICJhbGciOiJIUzI1NiJ9"
                + ".eyJpc3MiOiJqb2UiLA0KICJleHAiOjEzMDA4MTkzODAsDQogImh0dHA6Ly9leGFtcGxlLmNvbS9pc19yb290Ijp0cnVlfQ"
                + ".dBjftJeZ4CVP-mB92K27uhbUJU1p1r_wW1gFWFOEjXk");
        Desk x = new Desk();
        Bench.due("RFC 7515's secret", Bench.addKey(x, 0, "any", secret), 0);
        x.now(1300819379);
        Bench.due("RFC 7515 A.1", Bench.verify(x, JWS, token), 0);
        dueText(x, 0, "joe");
        Bench.due("its expiry", x.claim(3), 1300819380);
        Bench.due("no subject", x.has(1), -1);
        x.now(1300819380);
        Bench.due("RFC 7515 A.1, expired", Bench.verify(x, JWS, token), 7);
        Bench.addKey(x, 0, "more", secret);
        Bench.due("RFC 7515 A.1, and two keys", Bench.verify(x, JWS, token), 3);
    }

    /** The token that jwt.io shows. */
    private static void otherJws() {
        byte[] token = Bench.ascii("eyJhbGciOiJIUzI1NiIsInR5cCI6IkpXVCJ9"
                + ".eyJzdWIiOiIxMjM0NTY3ODkwIiwibmFtZSI6IkpvaG4gRG9lIiwiaWF0IjoxNTE2MjM5MDIyfQ"
                + ".SflKxwRJSMeKKF2QT4fwpMeJf36POk6yJV_adQssw5c");
        Desk x = new Desk();
        Bench.addKey(x, 0, "any", Bench.ascii("your-256-bit-secret"));
        Bench.due("issued ahead of its time", Bench.verify(x, JWS, token), 8);
        x.now(1516239022);
        Bench.due("issued now", Bench.verify(x, JWS, token), 0);
        dueText(x, 1, "1234567890");
        Bench.due("its time", x.claim(5), 1516239022);
        token[token.length - 2] ^= 1;
        Bench.due("another MAC", Bench.verify(x, JWS, token), 5);
    }

    private static void rfc8392Verified() {
        byte[] secret = Bench.hex("403697de87af64611c1d32a05dab0fe1fcb715a86ab435f1ec99192d79569388");
        byte[] token = Bench.cose(Bench.hex("a10105"), Bench.hex("a7" + RFC8392_CLAIMS + RFC8392_CTI), 0, secret);
        Desk x = new Desk();
        Bench.addKey(x, 0, "any", secret);
        x.now(1443944944);
        Bench.due("RFC 8392 A.1", Bench.verify(x, COSE, token), 0);
        dueText(x, 0, "coap://as.example.com");
        dueText(x, 1, "erikw");
        dueText(x, 2, "coap://light.example.com");
        Bench.due("exp", x.claim(3), 1444064944);
        Bench.due("nbf", x.claim(4), 1443944944);
        Bench.due("iat", x.claim(5), 1443944944);
        x.now(1443944943);
        Bench.due("RFC 8392 A.1, too early", Bench.verify(x, COSE, token), 8);
    }

    private static void rfc8392Issued() {
        byte[] secret = Bench.ascii("secret");
        Desk x = new Desk();
        Bench.addKey(x, 1, "Symmetri", secret);
        String[] texts = {"coap://as.example.com", "erikw", "coap://light.example.com"};
        for (int claim = 0; claim < texts.length; claim++) {
            Bench.put(x, texts[claim]);
            Bench.due("text(" + claim + ")", x.text(claim), texts[claim].length());
        }
        x.number(3, 1444064944);
        x.number(4, 1443944944);
        x.number(5, 1443944944);
        x.issue(COSE, 0);
        byte[] header = Bench.join(Bench.hex("a2010704"), Bench.row(Bench.ascii("Symmetri")));
        Bench.dueOut("RFC 8392 A.1 without cti", x, Bench.cose(header, Bench.hex("a6" + RFC8392_CLAIMS), 1, secret));
    }

    private static void dueText(Desk x, int claim, String want) {
        Bench.due("has(" + claim + ")", x.has(claim), want.length());
        for (int i = 0; i < want.length(); i++) {
            Bench.due("sign(" + claim + ", 0, " + i + ")", x.sign(claim, 0, i), want.charAt(i));
        }
    }
}
