/** A desk whose calls are counted: nothing is promised after the 512th, so a test that goes on is itself at fault. */
final class Desk {
    private static final int CALLS_MOST = 512;

    private final TokenDesk x = new TokenDesk();
    private int calls;

    private TokenDesk called() {
        calls++;
        if (calls > CALLS_MOST) {
            throw new IllegalStateException("a test makes more than 512 calls of one desk");
        }
        return x;
    }

    int callsLeft() {
        return CALLS_MOST - calls;
    }

    int feed(int a, int b, int c, int d, int e) {
        return called().feed(a, b, c, d, e);
    }

    int end(int n) {
        return called().end(n);
    }

    int key(int alg, int n) {
        return called().key(alg, n);
    }

    int text(int claim) {
        return called().text(claim);
    }

    boolean number(int claim, long v) {
        return called().number(claim, v);
    }

    int unset(int claim) {
        return called().unset(claim);
    }

    int issue(int family, int key) {
        return called().issue(family, key);
    }

    int octet(int i) {
        return called().octet(i);
    }

    int back(int i, int n) {
        return called().back(i, n);
    }

    boolean now(long t) {
        return called().now(t);
    }

    boolean policy(int leeway, boolean exp) {
        return called().policy(leeway, exp);
    }

    int wants(int what) {
        return called().wants(what);
    }

    int verify(int family) {
        return called().verify(family);
    }

    int has(int claim) {
        return called().has(claim);
    }

    int sign(int claim, int k, int i) {
        return called().sign(claim, k, i);
    }

    long claim(int claim) {
        return called().claim(claim);
    }

    int count(int what) {
        return called().count(what);
    }

    int hash(int alg, int i) {
        return called().hash(alg, i);
    }
}
