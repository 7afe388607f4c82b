import java.util.ArrayList;
import java.util.Arrays;
import java.util.List;

/**
 * A desk's whole state, as its other calls show it. Most of it shows only by calls that change it further (what issue()
 * writes, how verify() judges), so each question is put to a desk of its own that has had the same calls.
 */
final class State {
    /** A run of calls. */
    interface Calls {
        void on(Desk x);
    }

    /** One call that answers a number (of a boolean: 1 or 0). */
    interface Call {
        long on(Desk x);
    }

    private interface Question {
        void ask(Desk x, List<Long> answers);
    }

    static final byte[] SECRET = Bench.ascii("secret");
    static final byte[] OTHER_SECRET = Bench.ascii("another");
    static final long NOW = 1000;
    static final int LEEWAY = 60;

    private static final Question[] QUESTIONS = {
        State::told, State::signs, State::tapeAndOut, (x, a) -> issued(x, 0, a), (x, a) -> issued(x, 1, a),
        State::claimsWithoutKeys, State::claimsSet, State::times, State::timesAtFirst, State::texts,
    };

    private State() {
    }

    static Calls then(Calls first, Calls more) {
        return x -> {
            first.on(x);
            more.on(x);
        };
    }

    static Calls fed(byte[] bytes) {
        return x -> Bench.put(x, bytes);
    }

    /** A desk that has had no call. */
    static void fresh(Desk x) {
    }

    /** A desk with one KEY (KID "q", ALG 0) that has ACCEPTED a token and refused one; the TAPE is empty. */
    static void ready(Desk x) {
        Bench.addKey(x, 0, "q", SECRET);
        Bench.verify(x, 0, Bench.jws("{\"alg\":\"HS256\",\"kid\":\"q\"}",
                "{\"iss\":\"you\",\"aud\":[\"ab\",\"c\"],\"exp\":9,\"iat\":0}", 0, SECRET));
        x.verify(1);
    }

    /** A ready desk with more of each sort: KEYS, CLAIMS, OUT and a POLICY; the TAPE is empty. */
    static void busy(Desk x) {
        ready(x);
        Bench.addKey(x, 1, "second", OTHER_SECRET);
        Bench.put(x, "me");
        x.text(0);
        Bench.put(x, "aud");
        x.text(2);
        x.number(3, 2000);
        x.number(4, 10);
        x.issue(1, 0);
        Bench.put(x, "other");
        x.text(2);
        x.now(NOW);
        x.policy(LEEWAY, true);
        Bench.put(x, "iss");
        x.wants(0);
        Bench.put(x, "all");
        x.wants(1);
    }

    /** Both runs of calls lead to one and the same state. */
    static void same(String what, Calls one, Calls other) {
        for (int i = 0; i < QUESTIONS.length; i++) {
            List<Long> got = answers(QUESTIONS[i], one);
            List<Long> want = answers(QUESTIONS[i], other);
            boolean same = got.equals(want);
            Bench.due(what + ": the state afterwards (question " + i + ")", same, true);
            if (!same) {
                System.out.println("  got  " + got + "\n  want " + want);
            }
        }
    }

    static boolean differs(Calls one, Calls other) {
        for (Question question : QUESTIONS) {
            if (!answers(question, one).equals(answers(question, other))) {
                return true;
            }
        }
        return false;
    }

    private static List<Long> answers(Question question, Calls calls) {
        Desk x = new Desk();
        calls.on(x);
        List<Long> answers = new ArrayList<>();
        question.ask(x, answers);
        return answers;
    }

    /** The call answers so after these calls, and the state is what these calls and then the others make. */
    static void due(String what, Calls before, Call call, long want, Calls as) {
        Desk x = new Desk();
        before.on(x);
        Bench.due(what, call.on(x), want);
        same(what, then(before, call::on), then(before, as));
    }

    /** The call answers so, and nothing changes. */
    static void dueNothing(String what, Calls before, Call call, long want) {
        due(what, before, call, want, State::fresh);
    }

    /** The call answers so, and nothing changes but that the TAPE is empty. */
    static void dueEmptied(String what, Calls before, Call call, long want) {
        due(what, before, call, want, x -> x.end(0));
    }

    private static void told(Desk x, List<Long> answers) {
        for (int what = -1; what <= 8; what++) {
            answers.add((long) x.count(what));
        }
        for (int claim = -1; claim <= 6; claim++) {
            answers.add((long) x.has(claim));
            answers.add(x.claim(claim));
        }
    }

    private static void signs(Desk x, List<Long> answers) {
        for (int claim = 0; claim < 3; claim++) {
            for (int k = 0; k < 3; k++) {
                for (int i = 0; i < 6; i++) {
                    answers.add((long) x.sign(claim, k, i));
                }
            }
        }
        for (int k = 3; k < 21; k++) {
            answers.add((long) x.sign(2, k, 0));
        }
        answers.add((long) x.sign(0, 0, 199));
        answers.add((long) x.sign(1, 0, 199));
        answers.add((long) x.sign(2, 0, 199));
    }

    private static void sum(Desk x, List<Long> answers) {
        for (int i = 0; i < 16; i++) {
            answers.add((long) x.hash(0, i));
        }
    }

    private static void tapeAndOut(Desk x, List<Long> answers) {
        sum(x, answers);
        answers.add((long) x.hash(1, 0));
        x.end(0);
        answers.add((long) x.octet(0));
        answers.add((long) x.back(0, x.count(7)));
        sum(x, answers);
    }

    /** What each KEY ISSUES now: its KID, ALG and secret, and the CLAIMS. */
    private static void issued(Desk x, int family, List<Long> answers) {
        for (int key = 0; key < 6; key++) {
            x.end(0);
            answers.add((long) x.issue(family, key));
            answers.add((long) x.back(0, x.count(7)));
            sum(x, answers);
        }
    }

    private static void claimsWithoutKeys(Desk x, List<Long> answers) {
        answers.add((long) Bench.addKey(x, 0, "probe", SECRET));
        issued(x, 0, answers);
    }

    private static void claimsSet(Desk x, List<Long> answers) {
        for (int claim = 0; claim < 6; claim++) {
            answers.add((long) x.unset(claim));
        }
    }

    private static void judged(Desk x, List<Long> answers, String... payloads) {
        Bench.addKey(x, 0, "q", SECRET);
        for (String payload : payloads) {
            answers.add((long) Bench.verify(x, 0, Bench.jws("{\"alg\":\"HS256\",\"kid\":\"q\"}", payload, 0, SECRET)));
        }
    }

    /** NOW, LEEWAY, and whether EXP is wanted, as they are of a busy desk or beside it. */
    private static void times(Desk x, List<Long> answers) {
        judged(x, answers, "{}", number("exp", NOW - LEEWAY), number("exp", NOW - LEEWAY + 1), number("exp", NOW - LEEWAY - 1),
                exp("\"nbf\":" + (NOW + LEEWAY)), exp("\"iat\":" + (NOW + LEEWAY + 1)), exp("\"nbf\":" + (NOW + LEEWAY - 1)));
    }

    /** The same of a new desk: NOW 0, LEEWAY 0. */
    private static void timesAtFirst(Desk x, List<Long> answers) {
        judged(x, answers, number("exp", 0), number("exp", 1), exp("\"nbf\":0"), exp("\"nbf\":1"), exp("\"iat\":1"));
    }

    private static void texts(Desk x, List<Long> answers) {
        judged(x, answers, exp("\"jti\":1"), exp("\"iss\":\"iss\""), exp("\"iss\":\"\",\"aud\":\"all\""),
                exp("\"iss\":\"iss\",\"aud\":\"all\""), exp("\"iss\":\"iss\",\"aud\":\"al\""), exp("\"iss\":\"is\",\"aud\":\"all\""));
    }

    private static String number(String name, long v) {
        return "{\"" + name + "\":" + v + "}";
    }

    private static String exp(String more) {
        return "{\"exp\":9007199254740992," + more + "}";
    }

    /** Each single change shows, so that a state which is the same for these questions is the same indeed. */
    static void questionsTell() {
        Calls busyTape = then(State::busy, fed(Bench.ascii("tape")));
        List<Calls> changes = Arrays.asList(
            x -> x.end(3), x -> x.feed(0, 0, 0, 0, 0), x -> x.back(0, 1), x -> x.issue(0, 0), x -> x.issue(1, 0),
            x -> x.unset(0), x -> x.unset(2), x -> x.unset(3), x -> x.unset(4), x -> x.number(3, 2001), x -> x.number(4, 0),
            x -> x.number(5, 0), x -> x.text(0), x -> x.text(1), x -> x.text(2), x -> x.key(0, 2), x -> x.key(1, 2), x -> x.now(NOW - 1),
            x -> x.now(NOW + 1), x -> x.policy(LEEWAY, false), x -> x.policy(LEEWAY - 1, true), x -> x.policy(LEEWAY + 1, true),
            x -> x.policy(0, true), x -> x.wants(0), x -> x.wants(1), x -> x.verify(0), x -> x.verify(1));
        for (int i = 0; i < changes.size(); i++) {
            Bench.due("change " + i + " shows", differs(busyTape, then(busyTape, changes.get(i))), true);
        }
        List<Calls> ofFresh = Arrays.asList(
            x -> x.feed(0, 0, 0, 0, 0), x -> x.text(0), x -> x.text(1), x -> x.text(2), x -> x.number(3, 0), x -> x.number(4, 0),
            x -> x.number(5, 0), x -> x.now(1), x -> x.policy(1, false), x -> x.policy(0, true), x -> x.verify(0),
            x -> Bench.addKey(x, 0, "a", SECRET));
        for (int i = 0; i < ofFresh.size(); i++) {
            Bench.due("change " + i + " of a new desk shows", differs(State::fresh, ofFresh.get(i)), true);
        }
        Bench.due("another secret shows", differs(x -> Bench.addKey(x, 0, "a", SECRET), x -> Bench.addKey(x, 0, "a", OTHER_SECRET)), true);
        Bench.due("another ALG shows", differs(x -> Bench.addKey(x, 0, "a", SECRET), x -> Bench.addKey(x, 1, "a", SECRET)), true);
        Bench.due("another KID shows", differs(x -> Bench.addKey(x, 0, "a", SECRET), x -> Bench.addKey(x, 0, "b", SECRET)), true);
        same("the same calls", busyTape, busyTape);
    }
}
