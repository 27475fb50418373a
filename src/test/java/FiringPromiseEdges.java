/** Promises 14 to 21: matching, choosing and firing. */
final class FiringPromiseEdges {
    private static final String INDEX = "throws IndexOutOfBoundsException";
    private static final String ARGUMENT = "throws IllegalArgumentException";
    private static final String STATE = "throws IllegalStateException";
    private static final String LEAST_INT = "-2147483648";
    private static final String GREATEST_INT = "2147483647";

    private FiringPromiseEdges() {
    }

    static void test(Edges edges) {
        readyRules(edges);
        enabledRules(edges);
        matchOf(edges);
        matchOfErrors(edges);
        nextRule(edges);
        fire(edges);
        fireRule(edges);
        run(edges);
        isStuck(edges);
    }

    private static void readyRules(Edges edges) {
        edges.none(14, "Returns the rules that are ready");
        String mask = "Returns a bit mask in which bit r is set if rule r is ready";
        edges.of(14, mask).run("readyRules() = 0; send(4, 0) = -1; readyRules() = 0");
        edges.of(14, mask).each(0, 7, "rule e: = #").run("readyRules() = 0; send(4, 0) = -1; readyRules() = 255;"
            + "removeRule(7) = 7; readyRules() = 127; fire() = 0; readyRules() = 0");
        edges.of(14, mask).run("rule e: = 0").each(1, 6, "rule f: = #").run("rule g: = 7; send(4, 0) = -1; readyRules() = 1;"
            + "send(6, 0) = -1; readyRules() = 129; send(5, 0) = -1; readyRules() = 255");
        // Neither a guard that is false nor a want of room matters.
        edges.of(14, mask).run("rule e?0=1: = 0; rule e:f=1 = 1").each(1, 8, "send(5, 0) = -1").run("send(4, 0) = -1;"
            + "readyRules() = 3; enabledRules() = 0");
    }

    private static void enabledRules(Edges edges) {
        edges.none(15, "Returns the rules that are enabled");
        String mask = "Returns a bit mask in which bit r is set if rule r is enabled";
        edges.of(15, mask).run("enabledRules() = 0; send(4, 0) = -1; enabledRules() = 0");
        edges.of(15, mask).each(0, 7, "rule e: = #").run("enabledRules() = 0; send(4, 0) = -1; enabledRules() = 255;"
            + "removeRule(0) = 7; enabledRules() = 127; fire() = 0; enabledRules() = 0");
        edges.of(15, mask).each(0, 7, "rule e?e=#: = #").run("send(4, 7) = -1; enabledRules() = 128; send(4, 0) = -1;"
            + "enabledRules() = 129; send(4, 8) = -1; enabledRules() = 129");
        edges.of(15, mask).run("rule e:f=1 = 0; rule e:f=1,f=2 = 1; rule e: = 2; send(4, 0) = -1").each(1, 6,
            "send(5, 0) = -1; enabledRules() = 7").run("send(5, 0) = -1; enabledRules() = 5; send(5, 0) = -1; enabledRules() = 4");
    }

    private static void matchOf(Edges edges) {
        edges.none(16, "- `rule`");
        edges.of(16, "Returns which message of a channel belongs to the first match").run("rule e?e=1:f=1 = 0; send(4, 0) = -1;"
            + "send(4, 1) = -1; matchOf(0, 4) = 1").each(1, 7, "send(5, 0) = -1; matchOf(0, 4) = 1").run("enabledRules() = 1;"
            + "send(5, 0) = -1; enabledRules() = 0; matchOf(0, 4) = 1");
        edges.of(16, "Returns which message of a channel belongs to the first match").run("rule e:e=1,e=2 = 0")
            .each(1, 8, "send(4, 0) = -1").run("enabledRules() = 0; matchOf(0, 4) = 0");
        edges.of(16, "- `channel`: a channel of its pattern").run("rule ah: = 0; rule d: = 1; send(0, 0) = 0; send(7, 0) = -1;"
            + "matchOf(0, 0) = 0; matchOf(0, 7) = 0; matchOf(0, 3) = " + ARGUMENT + "; matchOf(1, 3) = -1; matchOf(1, 0) = "
            + ARGUMENT);
        String index = "Returns the index of the message in the queue; NONE if the rule has no match";
        // No message, no message in one of the channels, and no message that the guard likes.
        edges.of(16, index).run("rule e: = 0; rule ef: = 1; rule e?e=1: = 2").each(0, 2, "matchOf(#, 4) = -1").run(
            "send(4, 0) = -1; matchOf(0, 4) = 0; matchOf(1, 4) = -1; matchOf(1, 5) = -1; matchOf(2, 4) = -1; send(5, 0) = -1;"
            + "matchOf(1, 4) = 0; matchOf(1, 5) = 0; send(4, 1) = -1; matchOf(2, 4) = 1; matchOf(0, 4) = 0");
        for (int place = 0; place < 8; place++) {
            Script s = edges.of(16, index).run("rule e?e=9: = 0");
            for (int i = 0; i < place; i++) {
                s.run("send(4, 0) = -1; matchOf(0, 4) = -1");
            }
            s.run("send(4, 9) = -1; matchOf(0, 4) = " + place);
        }
    }

    private static void matchOfErrors(Edges edges) {
        edges.of(16, "Throws `IndexOutOfBoundsException` if the rule does not exist").run("matchOf(0, 0) = " + INDEX
            + "; rule a: = 0; matchOf(0, 0) = -1; matchOf(1, 0) = " + INDEX + "; matchOf(-1, 0) = " + INDEX + "; matchOf("
            + LEAST_INT + ", 0) = " + INDEX + "; matchOf(" + GREATEST_INT + ", 0) = " + INDEX + "; removeRule(0) = 0;"
            + "matchOf(0, 0) = " + INDEX).each(0, 7, "rule a: = #").run("matchOf(7, 0) = -1; matchOf(8, 0) = " + INDEX);
        Script s = edges.of(16, "Throws `IllegalArgumentException` if the channel does not belong to the pattern of the rule")
            .run("rule bg:c=1 = 0; send(1, 0) = 0; send(6, 0) = -1; matchOf(0, 1) = 0; matchOf(0, 6) = 0");
        // 33 and 38 would be channels 1 and 6 if a shift wrapped round.
        int[] wrong = {0, 2, 3, 4, 5, 7, 8, -1, -2, 32, 33, 38, -31, -26, 98, Integer.MIN_VALUE, Integer.MAX_VALUE};
        for (int channel : wrong) {
            s.run("matchOf(0, " + channel + ") = " + ARGUMENT);
        }
    }

    private static void nextRule(Edges edges) {
        String fires = "Returns the rule that fire would fire";
        for (int policy = 0; policy <= 2; policy++) {
            Script s = edges.of(17, fires).run("rule e:e=e,f=1 = 0; rule e:e=e,g=1 = 1; rule f: = 2; rule e: = 3; setPolicy("
                + policy + ") = 0; send(4, 0) = -1");
            for (int i = 0; i < 12; i++) {
                String next = s.ask("nextRule()");
                s.run("nextRule() = " + next + "; fire() = " + next);
            }
        }
        String number = "Returns the number of the rule; NONE if no rule is enabled";
        for (int policy = 0; policy <= 2; policy++) {
            edges.of(17, number).run("setPolicy(" + policy + ") = 0; nextRule() = -1; send(4, 0) = -1; nextRule() = -1;"
                + "rule ef: = 0; nextRule() = -1; rule e?e=1: = 1; nextRule() = -1; rule e:h=0 = 2; nextRule() = 2")
                .each(1, 8, "send(7, 0) = -1").run("nextRule() = -1; send(5, 0) = -1; nextRule() = 0; fire() = 0; nextRule() = -1");
            edges.of(17, number).each(0, 6, "rule f: = #").run("rule e: = 7; setPolicy(" + policy + ") = 0; send(4, 0) = -1;"
                + "nextRule() = 7; removeRule(0) = 7; nextRule() = 6; clock() = 1");
        }
    }

    private static void fire(Edges edges) {
        edges.none(18, "Fires the rule that the policy chooses");
        String number = "Returns the number of the rule; NONE if no rule is enabled (then nothing happens)";
        edges.of(18, number).each(0, 6, "rule f: = #").run("rule e: = 7; send(4, 0) = -1; fire() = 7; fire() = -1;"
            + "send(5, 0) = -1; fire() = 0; fire() = -1");
        Script s = edges.of(18, number).run("rule ef: = 0; rule e?e=1: = 1; rule e:e=1,e=2 = 2; setPolicy(1) = 0; save() = 0")
            .each(1, 8, "send(4, 0) = -1");
        String before = s.ask("digest()");
        s.run("fire() = -1; fire() = -1");
        s.due("digest()", s.ask("digest()"), before);
        s.run("clock() = 8; queueLength(4) = 8; consumed(4) = 0; firings(2) = 0; nextRule() = -1; restore() = 0");
        // A fire that does nothing leaves the rule that was fired last.
        edges.of(18, number).run("rule e: = 0; rule e: = 1; rule f: = 2; setPolicy(1) = 0; send(4, 0) = -1; fire() = 0; fire() = -1;"
            + "send(4, 0) = -1; fire() = 1");
    }

    private static void fireRule(Edges edges) {
        edges.none(19, "- `rule`");
        for (int policy = 0; policy <= 2; policy++) {
            edges.of(19, "Fires a given rule, whatever the policy is").run("rule e:e=e = 0; rule e:e=e = 1; rule e:e=e = 2; setPolicy("
                + policy + ") = 0; send(4, 0) = -1; fireRule(2) = 1; fireRule(2) = 2; fireRule(0) = 1; fireRule(1) = 1;"
                + "fireRule(1) = 2; fireRule(2) = 3; clock() = 7; setPolicy(0) = " + policy);
        }
        edges.of(19, "Returns how often the rule has been fired then").run("rule e:e=e = 0; rule e:e=e = 1; send(4, 0) = -1;"
            + "fireRule(1) = 1; fire() = 0; fireRule(0) = 2; run(100) = 100; fireRule(0) = 103; fireRule(1) = 2; save() = 1;"
            + "fireRule(1) = 3; restore() = 1; fireRule(1) = 3; removeRule(1) = 1; rule e:e=e = 1; fireRule(1) = 1");
        edges.of(19, "Throws `IndexOutOfBoundsException` if the rule does not exist").run("fireRule(0) = " + INDEX + "; rule e: = 0;"
            + "send(4, 0) = -1; fireRule(1) = " + INDEX + "; fireRule(-1) = " + INDEX + "; fireRule(" + LEAST_INT + ") = " + INDEX
            + "; fireRule(" + GREATEST_INT + ") = " + INDEX + "; clock() = 1").each(1, 7, "rule e: = #").run("fireRule(8) = "
            + INDEX + "; fireRule(7) = 1; removeRule(7) = 7; fireRule(7) = " + INDEX);
        // No message, a channel without one, a guard that is false, no room; another rule is enabled all the time.
        edges.of(19, "Throws `IllegalStateException` if the rule is not enabled").run("rule g:g=g = 0; rule ef: = 1; rule e?e=1: = 2;"
            + "rule e:f=1 = 3; send(6, 0) = -1").each(1, 3, "fireRule(#) = " + STATE).run("send(4, 0) = -1; fireRule(1) = "
            + STATE + "; fireRule(2) = " + STATE).each(1, 8, "send(5, 0) = -1").run("fireRule(3) = " + STATE + "; clock() = 10;"
            + "nextRule() = 0; fireRule(1) = 1; fireRule(3) = " + STATE + "; send(4, 1) = -1; fireRule(3) = 1; fireRule(2) = "
            + STATE);
    }

    private static void run(Edges edges) {
        String calls = "Calls fire until it returns NONE, or until the given number";
        edges.of(20, calls).run("run(1) = 0; rule e: = 0; run(1) = 0; clock() = 0").each(1, 8, "send(4, 0) = -1").run("run(3) = 3;"
            + "queueLength(4) = 5; run(5) = 5; run(1) = 0; clock() = 16; nextRule() = -1");
        edges.of(20, calls).run("rule e: = 0; send(4, 0) = -1; send(4, 0) = -1; run(3) = 2; clock() = 4; run(3) = 0; clock() = 4");
        edges.of(20, calls).run("rule e:e=e = 0; rule e:e=e = 1; rule e:e=e = 2; setPolicy(1) = 0; send(4, 0) = -1; run(4) = 4;"
            + "nextRule() = 1; run(2) = 2; nextRule() = 0; firings(0) = 2; firings(1) = 2; firings(2) = 2; setPolicy(0) = 1;"
            + "run(3) = 3; firings(0) = 5; setPolicy(2) = 0; run(6) = 6; firings(0) = 5; firings(1) = 5; firings(2) = 5");
        edges.of(20, "- `limit`: the number of rules, 1 to 100").run("rule e:e=e = 0; send(4, 0) = -1; run(1) = 1; clock() = 2;"
            + "run(100) = 100; clock() = 102");
        edges.of(20, "Returns how many rules were fired").run("run(100) = 0; rule e: = 0; rule f:f=f = 1; run(100) = 0; send(4, 0) = -1;"
            + "run(100) = 1; send(4, 0) = -1; send(5, 0) = -1; run(2) = 2; firings(0) = 2; firings(1) = 1; run(99) = 99;"
            + "firings(1) = 100");
        edges.of(20, "Throws `IllegalArgumentException` if limit is not 1 to 100").run("run(0) = " + ARGUMENT + "; run(101) = "
            + ARGUMENT + "; run(-1) = " + ARGUMENT + "; rule e:e=e = 0; send(4, 0) = -1; run(0) = " + ARGUMENT + "; run(101) = "
            + ARGUMENT + "; run(-1) = " + ARGUMENT + "; run(" + LEAST_INT + ") = " + ARGUMENT + "; run(" + GREATEST_INT + ") = "
            + ARGUMENT + "; clock() = 1; firings(0) = 0");
    }

    private static void isStuck(Edges edges) {
        edges.none(21, "Tells whether messages wait, but no rule is enabled");
        String stuck = "Returns true if at least one queue is not empty and no rule is enabled";
        edges.of(21, stuck).run("isStuck() = false; rule e: = 0; isStuck() = false");
        for (int c = 0; c < 8; c++) {
            edges.of(21, stuck).run("send(" + c + ", 0) = " + (c < 4 ? 0 : -1) + "; isStuck() = true; rule " + (char) ('a' + c)
                + ": = 0; isStuck() = false; fire() = 0; isStuck() = false");
        }
        edges.of(21, stuck).run("rule e?e=1: = 0; send(4, 0) = -1; isStuck() = true; send(4, 1) = -1; isStuck() = false; fire() = 0;"
            + "isStuck() = true");
        edges.of(21, stuck).run("rule e:f=1 = 0; send(4, 0) = -1").each(1, 7, "send(5, 0) = -1; isStuck() = false")
            .run("send(5, 0) = -1; isStuck() = true; readyRules() = 1");
        edges.of(21, stuck).each(0, 6, "rule ab: = #").run("rule h: = 7; send(7, 0) = -1; isStuck() = false; fire() = 7;"
            + "send(0, 0) = 0; isStuck() = true; send(1, 0) = 1; isStuck() = false");
    }
}
