/** Promises 1 to 9: a new object, the buffer, the rules and the policy. */
final class RulePromiseEdges {
    private static final String INDEX = "throws IndexOutOfBoundsException";
    private static final String ARGUMENT = "throws IllegalArgumentException";
    private static final String STATE = "throws IllegalStateException";
    private static final String LEAST_INT = "-2147483648";
    private static final String GREATEST_INT = "2147483647";
    private static final String FORTY = "abcd:!a=a+b+c,!b=a+b+c,!c=a+b+c,!d=a+b+c";

    private RulePromiseEdges() {
    }

    static void test(Edges edges) {
        newObject(edges);
        append(edges);
        clearBuffer(edges);
        firstError(edges);
        addRule(edges);
        addRuleErrors(edges);
        removeRule(edges);
        removeRuleFiredLast(edges);
        countAndPattern(edges);
        setPolicy(edges);
    }

    private static void newObject(Edges edges) {
        String created = "Creates a runtime without rules and messages";
        edges.of(1, created).run("ruleCount() = 0; patternOf(0) = " + INDEX + "; readyRules() = 0; enabledRules() = 0;"
            + "nextRule() = -1; fire() = -1; run(100) = 0; isStuck() = false; removeRule(0) = " + INDEX);
        edges.of(1, created).each(0, 7, "queueLength(#) = 0; messageAt(#, 0) = " + INDEX + "; consumed(#) = 0;"
            + "meanWait(#) = 0.0").run("waitingChannels() = 0; ticketState(0) = " + INDEX + "; clock() = 0");
        edges.of(1, created).run("firstError() = 0; addRule() = " + ARGUMENT + "; clearBuffer() = 0");
        edges.of(1, created).run("restore() = " + STATE + "; setPolicy(0) = 0");
        // No object sees what another one holds.
        edges.of(1, created).run("rule e: = 0; send(0, 1) = 0; save() = 1; text a = 1; setPolicy(2) = 0");
        edges.of(1, created).run("ruleCount() = 0; waitingChannels() = 0; clearBuffer() = 0; restore() = " + STATE
            + "; setPolicy(0) = 0; send(0, 1) = 0");
    }

    private static void append(Edges edges) {
        edges.none(2, "Appends a character to the buffer", "- `code`");
        edges.of(2, "Returns the new length of the buffer").each(1, 40, "append(97) = #").run("clearBuffer() = 40")
            .each(1, 40, "append(98) = #");

        Script codes = edges.of(2, "Throws `IllegalArgumentException` if code is not 32 to 126");
        codes.run("append(31) = " + ARGUMENT + "; append(127) = " + ARGUMENT + "; append(0) = " + ARGUMENT
            + "; append(-1) = " + ARGUMENT + "; append(-32) = " + ARGUMENT + "; append(128) = " + ARGUMENT
            + "; append(353) = " + ARGUMENT + "; append(65633) = " + ARGUMENT + "; append(" + LEAST_INT + ") = " + ARGUMENT
            + "; append(" + GREATEST_INT + ") = " + ARGUMENT + "; append(32) = 1; append(126) = 2; clearBuffer() = 2");
        for (int code = 32; code <= 126; code++) {
            codes.run("append(" + code + ") = 1; clearBuffer() = 1");
        }

        edges.of(2, "Throws `IllegalStateException` if the buffer has 40 characters").each(1, 40, "append(126) = #")
            .run("append(126) = " + STATE + "; append(32) = " + STATE + "; clearBuffer() = 40; append(32) = 1");
    }

    private static void clearBuffer(Edges edges) {
        edges.of(3, "Clears the buffer").run("clearBuffer() = 0; text ab = 2; clearBuffer() = 2; firstError() = 0; text a: = 2;"
            + "addRule() = 0; patternOf(0) = 1; text zz = 2; clearBuffer() = 2; text b: = 2; addRule() = 1");
        edges.of(3, "Returns the length that it had").run("clearBuffer() = 0; append(97) = 1; clearBuffer() = 1;"
            + "clearBuffer() = 0").each(1, 40, "append(98) = #").run("append(98) = " + STATE + "; clearBuffer() = 40;"
            + "clearBuffer() = 0");
    }

    private static void firstError(Edges edges) {
        edges.none(4, "Finds the first syntax error of the buffer");
        String index = "Returns the index of the first character that is a syntax error";
        edges.of(4, index).run("firstError() = 0; text a = 1; firstError() = 1; clearBuffer() = 1; text z = 1; firstError() = 0;"
            + "clearBuffer() = 1; text " + FORTY + " = 40; firstError() = 40; clearBuffer() = 40; text "
            + FORTY.substring(0, 39) + "h = 40; firstError() = 39; clearBuffer() = 40; text z" + FORTY.substring(1)
            + " = 40; firstError() = 0");
        edges.of(4, index).run("text a:b=b+c = 7; firstError() = 4; firstError() = 4; text ,,, = 10; firstError() = 4");
    }

    private static void addRule(Edges edges) {
        edges.of(5, "Adds the rule in the buffer, and clears the buffer").run("text a: = 2; addRule() = 0; firstError() = 0;"
            + "clearBuffer() = 0; addRule() = " + ARGUMENT + "; text " + FORTY + " = 40; addRule() = 1; clearBuffer() = 0;"
            + "patternOf(1) = 15").each(0, 3, "send(#, 5) = #").run("fireRule(1) = 1").each(0, 3, "replyOf(#) = 15");
        // Nothing of a text that was read before, or of a rule that was removed, is left in the new one.
        edges.of(5, "Adds the rule in the buffer, and clears the buffer").run("rule ae?a<e:!a=1,f=2,g=3,h=4 = 0; send(0, 1) = 0;"
            + "send(4, 2) = -1; fire() = 0; removeRule(0) = 0; rule a: = 0; patternOf(0) = 1; firings(0) = 0; send(0, 1) = 1;"
            + "fireRule(0) = 1; ticketState(1) = 2; queueLength(5) = 1; queueLength(6) = 1; queueLength(7) = 1");

        edges.of(5, "Adds the rule in the buffer, and clears the buffer").run("text af?a<f:!a=1,g=2 = 15; firstError() = 15;"
            + "clearBuffer() = 15; rule a: = 0; patternOf(0) = 1; send(0, 5) = 0; fire() = 0; ticketState(0) = 2;"
            + "waitingChannels() = 0");

        edges.of(5, "A saved state is discarded").run("save() = 0; rule a: = 0; restore() = " + STATE + "; save() = 0;"
            + "restore() = 0; text b = 1; restore() = 0; text : = 2; restore() = 0; addRule() = 1; restore() = " + STATE);

        edges.of(5, "Returns the number of the rule").each(0, 7, "rule h: = #").run("removeRule(7) = 7; rule h: = 7;"
            + "removeRule(0) = 7; rule h: = 7");
    }

    private static void addRuleErrors(Edges edges) {
        String notARule = "Throws `IllegalArgumentException` if the buffer is not a rule";
        edges.of(5, notARule).run("addRule() = " + ARGUMENT);
        String[] texts = {"a", ":", "abcde:", "aa:", "a?a<1", "a?1:", "a:h", "a:h=", "a:h=1+", "a:h=1,", "a:!", "a:!a", "a:!a=",
            "e:!e=1", "a:!a=1,!a=2", "a:h=1+2+3+4", "a:e=1,e=2,e=3,e=4,", "a:e=1,e=2,e=3,e=4,e=5", "a::", "a:h=b", "a?b=1:"};
        for (String text : texts) {
            edges.of(5, notARule).run("save() = 0; text " + text + " = " + text.length() + "; addRule() = " + ARGUMENT
                + "; ruleCount() = 0; restore() = 0; clearBuffer() = " + text.length());
        }

        edges.of(5, "Throws `IllegalStateException` if there are 8 rules").each(0, 6, "rule a: = #").run("text b: = 2;"
            + "addRule() = 7; text c: = 2; save() = 0; addRule() = " + STATE + "; restore() = 0; ruleCount() = 8;"
            + "patternOf(7) = 2; clearBuffer() = 2; text c: = 2; removeRule(0) = 7; addRule() = 7; patternOf(7) = 4;"
            + "patternOf(6) = 2");
    }

    private static void removeRule(Edges edges) {
        edges.none(6, "- `rule`");
        edges.of(6, "Removes a rule").run("rule a: = 0; removeRule(0) = 0; patternOf(0) = " + INDEX + "; send(0, 0) = 0;"
            + "readyRules() = 0; enabledRules() = 0; fire() = -1; isStuck() = true");
        // The first one, the last one and one between them.
        edges.of(6, "Removes a rule").run("rule a: = 0; rule b: = 1; rule c: = 2; rule d: = 3; removeRule(0) = 3;"
            + "patternOf(0) = 2; patternOf(1) = 4; patternOf(2) = 8; removeRule(2) = 2; patternOf(0) = 2; patternOf(1) = 4;"
            + "patternOf(2) = " + INDEX + "; rule e: = 2; removeRule(1) = 2; patternOf(0) = 2; patternOf(1) = 16");
        // What is read later must not show in the rules that are left.
        edges.of(6, "Removes a rule").run("rule e:f=1 = 0; rule e:f=2 = 1; removeRule(0) = 1; rule e:f=3 = 1; text g:h=9 = 5;"
            + "firstError() = 5; patternOf(0) = 16; send(4, 0) = -1; send(4, 0) = -1; fireRule(0) = 1; messageAt(5, 0) = 2;"
            + "fireRule(1) = 1; messageAt(5, 1) = 3");
        edges.of(6, "A saved state is discarded").run("rule a: = 0; rule b: = 1; save() = 0; removeRule(2) = " + INDEX
            + "; restore() = 0; removeRule(1) = 1; restore() = " + STATE + "; save() = 0; removeRule(0) = 0; restore() = " + STATE);
        edges.of(6, "Returns the number of rules left").each(0, 7, "rule a: = #").run("removeRule(7) = 7; removeRule(0) = 6;"
            + "removeRule(3) = 5; removeRule(0) = 4; removeRule(3) = 3; removeRule(0) = 2; removeRule(1) = 1; removeRule(0) = 0;"
            + "removeRule(0) = " + INDEX);
        edges.of(6, "Throws `IndexOutOfBoundsException` if the rule does not exist").run("removeRule(0) = " + INDEX
            + "; rule a: = 0; removeRule(1) = " + INDEX + "; removeRule(-1) = " + INDEX + "; removeRule(" + LEAST_INT + ") = "
            + INDEX + "; removeRule(" + GREATEST_INT + ") = " + INDEX + "; removeRule(0) = 0; removeRule(0) = " + INDEX)
            .each(0, 7, "rule a: = #").run("removeRule(8) = " + INDEX + "; removeRule(7) = 7; removeRule(7) = " + INDEX);
    }

    /** Four rules that are always enabled, the rotation policy, and rule 'last' fired last. */
    private static Script fourRules(Edges edges, int last) {
        return edges.of(6, "The numbers of the rules behind it decrease by 1").each(0, 3, "rule e:e=e = #")
            .run("setPolicy(1) = 0; send(4, 1) = -1; fireRule(" + last + ") = 1");
    }

    private static void removeRuleFiredLast(Edges edges) {
        // A rule before the one that was fired last, that one itself, and one behind it.
        fourRules(edges, 2).run("removeRule(0) = 3; firings(1) = 1; nextRule() = 2");
        fourRules(edges, 2).run("removeRule(1) = 3; firings(1) = 1; nextRule() = 2");
        fourRules(edges, 2).run("removeRule(2) = 3; nextRule() = 2");
        fourRules(edges, 2).run("removeRule(3) = 3; firings(2) = 1; nextRule() = 0");
        fourRules(edges, 3).run("nextRule() = 0; removeRule(3) = 3; nextRule() = 0");
        fourRules(edges, 3).run("removeRule(0) = 3; nextRule() = 0; firings(2) = 1");
        // There is no rule before rule 0: no rule has been fired yet.
        fourRules(edges, 0).run("nextRule() = 1; removeRule(0) = 3; nextRule() = 0");
        fourRules(edges, 0).run("removeRule(0) = 3; removeRule(0) = 2; nextRule() = 0; fire() = 0; nextRule() = 1");
        fourRules(edges, 0).run("removeRule(1) = 3; nextRule() = 1; removeRule(2) = 2; nextRule() = 1");
        fourRules(edges, 1).run("removeRule(1) = 3; nextRule() = 1; removeRule(0) = 2; nextRule() = 0");
        fourRules(edges, 1).run("removeRule(0) = 3; removeRule(0) = 2; removeRule(0) = 1; removeRule(0) = 0; nextRule() = -1;"
            + "rule e:e=e = 0; rule e:e=e = 1; nextRule() = 0");
        // The rule before it, which counts as fired last, is removed in its turn.
        fourRules(edges, 3).run("removeRule(3) = 3; removeRule(2) = 2; rule e:e=e = 2; nextRule() = 2; removeRule(1) = 2;"
            + "nextRule() = 1");
        edges.of(6, "The numbers of the rules behind it decrease by 1").each(0, 7, "rule e:f=# = #").run("removeRule(0) = 7;"
            + "removeRule(3) = 6; removeRule(5) = 5").run("send(4, 0) = -1; send(4, 0) = -1; send(4, 0) = -1; fireRule(2) = 1;"
            + "messageAt(5, 0) = 3; fireRule(3) = 1; messageAt(5, 1) = 5; fireRule(4) = 1; messageAt(5, 2) = 6");
    }

    private static void countAndPattern(Edges edges) {
        edges.of(7, "Returns the number of rules").run("ruleCount() = 0").each(0, 7, "ruleCount() = #; rule a: = #")
            .run("ruleCount() = 8; text a: = 2; addRule() = " + STATE + "; ruleCount() = 8; removeRule(0) = 7; ruleCount() = 7");

        edges.none(8, "Returns the pattern of a rule", "- `rule`");
        edges.of(8, "Returns a bit mask in which bit c is set").run("rule a: = 0; rule h: = 1; rule ah: = 2; rule abcd: = 3;"
            + "rule efgh: = 4; rule bdfh?b<1:!b=1,a=1,c=2 = 5; patternOf(0) = 1; patternOf(1) = 128; patternOf(2) = 129;"
            + "patternOf(3) = 15; patternOf(4) = 240; patternOf(5) = 170");
        edges.of(8, "Throws `IndexOutOfBoundsException` if the rule does not exist").run("patternOf(0) = " + INDEX
            + "; rule a: = 0; patternOf(0) = 1; patternOf(1) = " + INDEX + "; patternOf(-1) = " + INDEX + "; patternOf("
            + LEAST_INT + ") = " + INDEX + "; patternOf(" + GREATEST_INT + ") = " + INDEX).each(1, 7, "rule b: = #")
            .run("patternOf(7) = 2; patternOf(8) = " + INDEX + "; removeRule(0) = 7; patternOf(7) = " + INDEX);
    }

    private static void setPolicy(Edges edges) {
        edges.none(9, "Sets the policy");
        edges.of(9, "- `policy`: 0 to 2").run("setPolicy(0) = 0; setPolicy(2) = 0; setPolicy(1) = 2; setPolicy(0) = 1");
        edges.of(9, "Returns the previous policy").run("setPolicy(0) = 0; setPolicy(1) = 0; setPolicy(1) = 1; setPolicy(2) = 1;"
            + "setPolicy(3) = " + ARGUMENT + "; setPolicy(2) = 2; setPolicy(0) = 2; setPolicy(0) = 0");
        edges.of(9, "Throws `IllegalArgumentException` if policy is not 0 to 2").run("setPolicy(-1) = " + ARGUMENT
            + "; setPolicy(3) = " + ARGUMENT + "; setPolicy(" + LEAST_INT + ") = " + ARGUMENT + "; setPolicy(" + GREATEST_INT
            + ") = " + ARGUMENT + "; setPolicy(2) = 0; setPolicy(3) = " + ARGUMENT + "; setPolicy(-1) = " + ARGUMENT
            + "; setPolicy(1) = 2");
    }
}
