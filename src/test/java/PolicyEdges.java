/** The boundary cases of promises 11 to 13, and of the POLICY in the terms' V. */
final class PolicyEdges {
    private static final int LEAST = Integer.MIN_VALUE;
    private static final int MOST = Integer.MAX_VALUE;
    private static final long NUMBER_MOST = 1L << 53;

    private PolicyEdges() {
    }

    static void all() {
        Edges.edge("11", "NOW: true", PolicyEdges::now);
        Edges.edge("11", "false, and nothing changes, if it is below 0", PolicyEdges::nowBelow);
        Edges.edge("11", "or above 2^53", PolicyEdges::nowAbove);
        Edges.edge("12", "LEEWAY, and whether EXP is wanted: true", PolicyEdges::policy);
        Edges.edge("12", "false, and nothing changes, if LEEWAY is none", PolicyEdges::noLeeway);
        Edges.edge("13", "ISSUER (0) or AUDIENCE (1) is the TAPE's bytes, which is empty then: how many", PolicyEdges::wants);
        Edges.edge("13", "none of them: there is none any more (0)", PolicyEdges::wantsNone);
        Edges.edge("13", "NONE, and the TAPE is empty all the same, for others than text() takes", PolicyEdges::wantsNoText);
        Edges.edge("13", "or another what", PolicyEdges::wantsAnother);
        Edges.edge("V", "POLICY: LEEWAY (0 to 600; 0 at first)", PolicyEdges::leewayAtFirst);
        Edges.edge("V", "whether EXP is wanted (no)", PolicyEdges::expAtFirst);
        Edges.edge("V", "ISSUER, AUDIENCE (none)", PolicyEdges::textsAtFirst);
        Edges.edge("V", "NOW is 0 at first", PolicyEdges::nowAtFirst);
    }

    private static Desk desk() {
        Desk x = new Desk();
        Bench.addKey(x, 0, "q", State.SECRET);
        return x;
    }

    private static void due(String what, Desk x, String payload, int want) {
        byte[] token = Bench.jws("{\"alg\":\"HS256\"}", payload, 0, State.SECRET);
        Bench.due(what + ": " + payload, Bench.verify(x, 0, token), want);
    }

    /** EXP and NBF on both sides of where NOW and LEEWAY draw the line. */
    private static void dueTimes(String what, Desk x, long now, int leeway) {
        if (now - leeway >= 0) {
            due(what, x, "{\"exp\":" + (now - leeway) + "}", 7);
        }
        if (now - leeway + 1 >= 0 && now - leeway + 1 <= NUMBER_MOST) {
            due(what, x, "{\"exp\":" + (now - leeway + 1) + "}", 0);
        }
        if (now + leeway <= NUMBER_MOST) {
            due(what, x, "{\"nbf\":" + (now + leeway) + "}", 0);
            due(what, x, "{\"iat\":" + (now + leeway) + "}", 0);
        }
        if (now + leeway + 1 <= NUMBER_MOST) {
            due(what, x, "{\"nbf\":" + (now + leeway + 1) + "}", 8);
            due(what, x, "{\"iat\":" + (now + leeway + 1) + "}", 8);
        }
    }

    private static void now() {
        for (long t : new long[] {0, 1, 1000, (1L << 31) - 1, 1L << 31, (1L << 32) - 1, 1L << 32, NUMBER_MOST - 1, NUMBER_MOST}) {
            Desk x = desk();
            x.now(77);
            Bench.due("now(" + t + ")", x.now(t), true);
            dueTimes("now(" + t + ")", x, t, 0);
        }
        State.same("now() changes NOW alone", x -> {
            State.busy(x);
            Bench.put(x, "tape");
            x.now(5);
            x.now(State.NOW);
        }, x -> {
            State.busy(x);
            Bench.put(x, "tape");
        });
    }

    private static void nowBelow() {
        for (long t : new long[] {-1, -2, -1000, -(1L << 32), -NUMBER_MOST, Long.MIN_VALUE}) {
            State.dueNothing("now(" + t + ")", State::busy, x -> x.now(t) ? 1 : 0, 0);
            State.dueNothing("now(" + t + ") of a new desk", State::fresh, x -> x.now(t) ? 1 : 0, 0);
        }
    }

    private static void nowAbove() {
        for (long t : new long[] {NUMBER_MOST + 1, NUMBER_MOST + 2, 1L << 54, 1L << 62, Long.MAX_VALUE}) {
            State.dueNothing("now(" + t + ")", State::busy, x -> x.now(t) ? 1 : 0, 0);
            State.dueNothing("now(" + t + ") of a new desk", State::fresh, x -> x.now(t) ? 1 : 0, 0);
        }
    }

    private static void policy() {
        for (int leeway : new int[] {0, 1, 60, 599, 600}) {
            for (long now : new long[] {0, 1000, NUMBER_MOST}) {
                Desk x = desk();
                x.now(now);
                x.policy(30, true);
                Bench.due("policy(" + leeway + ", false)", x.policy(leeway, false), true);
                dueTimes("LEEWAY " + leeway, x, now, leeway);
                due("LEEWAY " + leeway, x, "{}", 0);
                Bench.due("policy(" + leeway + ", true)", x.policy(leeway, true), true);
                due("EXP wanted", x, "{}", 7);
                due("EXP wanted", x, "{\"exp\":" + NUMBER_MOST + "}", now - leeway < NUMBER_MOST ? 0 : 7);
            }
        }
        State.same("policy() changes the POLICY alone", x -> {
            State.busy(x);
            Bench.put(x, "tape");
            x.policy(600, false);
            x.policy(State.LEEWAY, true);
        }, x -> {
            State.busy(x);
            Bench.put(x, "tape");
        });
    }

    private static void noLeeway() {
        for (int leeway : new int[] {LEAST, -600, -1, 601, 602, 1000, 65536, MOST}) {
            State.dueNothing("policy(" + leeway + ", false)", State::busy, x -> x.policy(leeway, false) ? 1 : 0, 0);
            State.dueNothing("policy(" + leeway + ", true)", State::busy, x -> x.policy(leeway, true) ? 1 : 0, 0);
            State.dueNothing("policy(" + leeway + ", true) of a new desk", State::fresh, x -> x.policy(leeway, true) ? 1 : 0, 0);
        }
    }

    private static String member(int what, String text) {
        return "{\"" + (what == 0 ? "iss" : "aud") + "\":\"" + text + "\"}";
    }

    private static void wants() {
        for (int what = 0; what < 2; what++) {
            int w = what;
            for (int size : new int[] {1, 2, 39, 40}) {
                String text = "~".repeat(size - 1) + " ";
                Desk x = desk();
                Bench.put(x, "before");
                Bench.due("wants(" + what + ")", x.wants(what), 6);
                Bench.put(x, text);
                Bench.due("wants(" + what + ") of " + size, x.wants(what), size);
                Bench.due("the TAPE", x.count(6), 0);
                due("the text", x, member(what, text), 0);
                due("another one", x, member(what, "~".repeat(size)), 9 + what);
                due("a longer one", x, member(what, text + " "), 9 + what);
                due("a shorter one", x, member(what, text.substring(1)), 9 + what);
                due("the one before", x, member(what, "before"), 9 + what);
                due("none", x, "{}", 9 + what);
            }
            State.same("wants(" + what + ") changes no other", x -> {
                State.busy(x);
                Bench.put(x, "else");
                x.wants(w);
                Bench.put(x, w == 0 ? "iss" : "all");
                x.wants(w);
            }, State::busy);
        }
    }

    private static void wantsNone() {
        for (int what = 0; what < 2; what++) {
            Desk x = desk();
            Bench.put(x, "a");
            x.wants(what);
            Bench.put(x, "b");
            x.wants(1 - what);
            String other = member(1 - what, "b");
            due("both wanted", x, other, 9 + what);
            Bench.due("wants(" + what + ") of none", x.wants(what), 0);
            due("none any more", x, other, 0);
            due("none any more", x, "{}", 10 - what);
            Bench.due("wants(" + what + ") of none again", x.wants(what), 0);
            due("none any more", x, other, 0);
        }
        State.dueNothing("no ISSUER on a new desk", State::fresh, x -> x.wants(0), 0);
        State.dueNothing("no AUDIENCE on a new desk", State::fresh, x -> x.wants(1), 0);
    }

    private static void wantsNoText() {
        for (int what = 0; what < 2; what++) {
            int w = what;
            for (String text : new String[] {"x".repeat(41), "x".repeat(1500), "\u001f", "\u007f", "a\u0080", "\u00ff", "\u0000",
                    "x".repeat(40) + "\n", "x".repeat(39) + "\n"}) {
                State.Calls tape = State.fed(Bench.ascii(text));
                State.dueEmptied("wants(" + what + ")", State.then(State::busy, tape), x -> x.wants(w), -1);
                State.dueEmptied("wants(" + what + ") of a new desk", tape, x -> x.wants(w), -1);
            }
        }
        for (int b = 0; b < 256; b++) {
            Desk x = desk();
            boolean plain = b >= 32 && b <= 126;
            Bench.put(x, "a" + (char) b);
            Bench.due("wants() of byte " + b, x.wants(b % 2), plain ? 2 : -1);
            Bench.due("the TAPE", x.count(6), 0);
            due("byte " + b, x, "{}", plain ? 9 + b % 2 : 0);
        }
    }

    private static void wantsAnother() {
        for (int what : new int[] {LEAST, -1, 2, 3, 256, MOST}) {
            for (String text : new String[] {"", "a", "x".repeat(41)}) {
                State.Calls tape = State.fed(Bench.ascii(text));
                State.dueEmptied("wants(" + what + ")", State.then(State::busy, tape), x -> x.wants(what), -1);
                State.dueEmptied("wants(" + what + ") of a new desk", tape, x -> x.wants(what), -1);
            }
        }
    }

    private static void leewayAtFirst() {
        Desk x = desk();
        x.now(1000);
        dueTimes("at first", x, 1000, 0);
        Bench.due("policy(601, false)", x.policy(601, false), false);
        Bench.due("policy(-1, false)", x.policy(-1, false), false);
        dueTimes("still", x, 1000, 0);
        Bench.due("policy(600, false)", x.policy(600, false), true);
        dueTimes("then", x, 1000, 600);
        Bench.due("policy(0, false)", x.policy(0, false), true);
        dueTimes("again", x, 1000, 0);
    }

    private static void expAtFirst() {
        Desk x = desk();
        due("EXP is not wanted", x, "{}", 0);
        x.policy(0, true);
        due("EXP is wanted", x, "{}", 7);
        x.policy(0, false);
        due("EXP is not wanted again", x, "{}", 0);
    }

    private static void textsAtFirst() {
        Desk x = desk();
        due("no ISSUER, no AUDIENCE", x, "{}", 0);
        due("any ISS", x, "{\"iss\":\"\"}", 0);
        due("any AUD", x, "{\"aud\":[]}", 0);
    }

    private static void nowAtFirst() {
        Desk x = desk();
        dueTimes("at first", x, 0, 0);
    }
}
