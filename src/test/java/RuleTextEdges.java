/** The form of a rule, and how the buffer is read. */
final class RuleTextEdges {
    private static final String ARGUMENT = "throws IllegalArgumentException";
    private static final String STATE = "throws IllegalStateException";
    private static final String DIGITS = "0123456789";
    private static final String LETTERS = "abcdefgh";
    /** The document's own rule: with a guard, a reply and an output. */
    private static final String WHOLE = "af?a<f:!a=f-a,e=a";

    private RuleTextEdges() {
    }

    static void test(Edges edges) {
        limits(edges);
        blanks(edges);
        form(edges);
        patterns(edges);
        operands(edges);
        outputs(edges);
        targets(edges);
        replies(edges);
        reading(edges);
        placesOfCommasAndReplies(edges);
        ends(edges);
    }

    /** Behind a text without an error, tries each of the 95 characters: only the given ones may stand there. */
    private static void allowed(Edges edges, String sentence, String text, String characters) {
        for (int code = 32; code <= 126; code++) {
            Script s = edges.of(0, sentence);
            for (char before : text.toCharArray()) {
                s.ask("append(" + (int) before + ")");
            }
            s.ask("append(" + code + ")");
            int due = text.length() + (characters.indexOf(code) >= 0 ? 1 : 0);
            s.due("firstError() of " + text + (char) code, s.ask("firstError()"), due);
        }
    }

    private static void rule(Edges edges, String sentence, String text) {
        edges.of(0, sentence).run("text " + text + " = " + text.length() + "; firstError() = " + text.length()
            + "; addRule() = 0; ruleCount() = 1");
    }

    private static void error(Edges edges, String sentence, String text, int index) {
        edges.of(0, sentence).run("text " + text + " = " + text.length() + "; firstError() = " + index + "; addRule() = "
            + ARGUMENT + "; ruleCount() = 0");
    }

    private static void limits(Edges edges) {
        edges.of(0, "There are at most 8 rules").each(0, 7, "ruleCount() = #; rule e:f=# = #").run("text e:f=8 = 5; addRule() = "
            + STATE + "; ruleCount() = 8").each(0, 7, "send(4, 0) = -1; fireRule(#) = 1; messageAt(5, #) = #");

        String sizes = "A rule has a pattern, which is a set of 1 to 4 channels";
        error(edges, sizes, ":", 0);
        error(edges, sizes, "?1=1:", 0);
        rule(edges, sizes, "a:");
        rule(edges, sizes, "abcd:");
        rule(edges, sizes, "efgh:");
        error(edges, sizes, "abcde:", 4);
        error(edges, sizes, "defgh:", 4);
        rule(edges, sizes, "a?a=1:");
        rule(edges, sizes, "a:e=1");
        rule(edges, sizes, "a:e=1,e=2,e=3,e=4");
        error(edges, sizes, "a:e=1,e=2,e=3,e=4,e=5", 17);
    }

    private static void blanks(Edges edges) {
        for (int i = 0; i <= WHOLE.length(); i++) {
            Script s = edges.of(0, "It is written as a text without blanks");
            for (int k = 0; k < i; k++) {
                s.run("append(" + (int) WHOLE.charAt(k) + ") = " + (k + 1));
            }
            s.run("append(32) = " + (i + 1) + "; firstError() = " + i + "; addRule() = " + ARGUMENT);
        }
    }

    private static void form(Edges edges) {
        String form = "rule    = pattern";
        allowed(edges, form, "", LETTERS);
        allowed(edges, form, "a", "bcdefgh?:");
        allowed(edges, form, "a?", "a" + DIGITS);
        allowed(edges, form, "a?a", "<=>");
        allowed(edges, form, "a?0", "<=>");
        for (char sign : "<=>".toCharArray()) {
            allowed(edges, form, "a?a" + sign, "a" + DIGITS);
            allowed(edges, form, "a?a" + sign + "1", ":");
            rule(edges, form, "a?1" + sign + "a:");
        }
        allowed(edges, form, "a:", LETTERS + "!");
        allowed(edges, form, "a?a<1:", LETTERS + "!");
        allowed(edges, form, "a:h=1", "+-*,");
        allowed(edges, form, "a:h=1,", LETTERS + "!");
        rule(edges, form, "a:");
        rule(edges, form, "a:h=1");
        rule(edges, form, "a:h=1,g=2");
        rule(edges, form, "a?a<1:h=1");
    }

    private static void patterns(Edges edges) {
        String pattern = "pattern = 1 to 4 letters";
        for (int i = 0; i < 8; i++) {
            allowed(edges, pattern, LETTERS.substring(i, i + 1), LETTERS.substring(i + 1) + "?:");
        }
        allowed(edges, pattern, "ab", "cdefgh?:");
        allowed(edges, pattern, "ah", "?:");
        allowed(edges, pattern, "abc", "defgh?:");
        allowed(edges, pattern, "ceg", "h?:");
        allowed(edges, pattern, "fgh", "?:");
        allowed(edges, pattern, "abcd", "?:");
        allowed(edges, pattern, "aceg", "?:");
        allowed(edges, pattern, "efgh", "?:");
    }

    private static void operands(Edges edges) {
        String operand = "operand = a letter of the pattern";
        for (String pattern : new String[] {"a", "h", "bg", "abcd", "efgh"}) {
            allowed(edges, operand, pattern + "?", pattern + DIGITS);
            allowed(edges, operand, pattern + "?9>", pattern + DIGITS);
            allowed(edges, operand, pattern + ":e=", pattern + DIGITS);
            allowed(edges, operand, pattern + ":e=0+", pattern + DIGITS);
            allowed(edges, operand, pattern + ":e=0-9*", pattern + DIGITS);
        }
    }

    private static void outputs(Edges edges) {
        String output = "output  = target";
        allowed(edges, output, "a:h", "=");
        allowed(edges, output, "a:!a", "=");
        allowed(edges, output, "a:h=", "a" + DIGITS);
        allowed(edges, output, "a:h=1", "+-*,");
        for (char sign : "+-*".toCharArray()) {
            allowed(edges, output, "a:h=1" + sign, "a" + DIGITS);
            allowed(edges, output, "a:h=1" + sign + "a", "+-*,");
            allowed(edges, output, "a:h=1" + sign + "a" + sign, "a" + DIGITS);
            allowed(edges, output, "a:h=1" + sign + "a" + sign + "2", ",");
        }
        rule(edges, output, "a:h=1");
        rule(edges, output, "a:h=1+2");
        rule(edges, output, "a:h=1+2-3");
        error(edges, output, "a:h=1+2-3*4", 9);
        error(edges, output, "a:h=,g=1", 4);
    }

    private static void targets(Edges edges) {
        String target = "target  = a letter 'a' to 'h'";
        for (String pattern : new String[] {"a", "d", "e", "abcd", "efgh"}) {
            allowed(edges, target, pattern + ":", LETTERS + "!");
        }
        allowed(edges, target, "a:!", "a");
        allowed(edges, target, "d:!", "d");
        allowed(edges, target, "e:!", "");
        allowed(edges, target, "abcd:!", "abcd");
        allowed(edges, target, "cdef:!", "cd");
        allowed(edges, target, "efgh:!", "");
        for (int c = 0; c < 8; c++) {
            char letter = LETTERS.charAt(c);
            edges.of(0, target).run("rule " + (c == 4 ? "f" : "e") + ":" + letter + "=7 = 0; send(" + (c == 4 ? 5 : 4)
                + ", 0) = -1; fire() = 0; waitingChannels() = " + (1 << c) + "; messageAt(" + c + ", 0) = 7");
        }
    }

    private static void replies(Edges edges) {
        String once = "A target with \"!\" is a reply to that channel";
        allowed(edges, once, "ab:!a=1,!", "b");
        allowed(edges, once, "ab:!b=1,!", "a");
        allowed(edges, once, "ab:!b=1,!a=1,!", "");
        allowed(edges, once, "abcd:!d=1,!a=2,!c=3,!", "b");
        for (int c = 0; c < 4; c++) {
            char letter = LETTERS.charAt(c);
            edges.of(0, once).run("rule " + letter + ":!" + letter + "=8," + letter + "=9 = 0; send(" + c + ", 1) = 0;"
                + "fire() = 0; replyOf(0) = 8; queueLength(" + c + ") = 1; messageAt(" + c + ", 0) = 9");
        }
        rule(edges, once, "abcd:!a=1,!b=2,!c=3,!d=4");

        edges.of(0, "For example, \"af?a<f:!a=f-a,e=a\"").run("rule " + WHOLE + " = 0; send(0, 3) = 0; send(5, 3) = -1;"
            + "enabledRules() = 0; fire() = -1; send(5, 2) = -1; fire() = -1; send(5, 4) = -1; enabledRules() = 1;"
            + "fire() = 0; replyOf(0) = 1; messageAt(4, 0) = 3; queueLength(0) = 0; queueLength(5) = 2; queueLength(4) = 1");
    }

    private static void reading(Edges edges) {
        String reading = "The buffer is read from left to right";
        error(edges, reading, "ba:!c", 1);
        error(edges, reading, "::a", 0);
        error(edges, reading, "a:b=b,b=b", 4);
        edges.of(0, reading).run("text ab?c = 4; firstError() = 3; text <1: = 7; firstError() = 3; text i = 8;"
            + "firstError() = 3; clearBuffer() = 8; firstError() = 0");
        // The last of forty characters may be the first wrong one.
        String full = "abcd:!a=a+b+c,!b=a+b+c,!c=a+b+c,!d=a+b+";
        edges.of(0, reading).run("text " + full + " = 39; text e = 40; firstError() = 39; addRule() = " + ARGUMENT);
        edges.of(0, reading).run("text " + full + " = 39; text d = 40; firstError() = 40; addRule() = 0");
        // What is allowed depends on this text alone, not on one that was read before.
        edges.of(0, reading).run("text ab?a<b:!a=b,!b=a = 16; firstError() = 16; clearBuffer() = 16; text a:!b = 4;"
            + "firstError() = 3; clearBuffer() = 4; text a:!a=1,f=2 = 10; firstError() = 10; clearBuffer() = 10;"
            + "text a:!a=1,f=b = 10; firstError() = 9");
    }

    private static void placesOfCommasAndReplies(Edges edges) {
        String places = "A comma is not allowed after the fourth output";
        allowed(edges, places, "a:a=1,a=2,a=3", "+-*,");
        allowed(edges, places, "a:a=1,a=2,a=3,a=4", "+-*");
        allowed(edges, places, "a:!a=1,a=2,a=3,a=4", "+-*");
        allowed(edges, places, "a:a=1,a=2,a=3,!a=4-1", "+-*");
        allowed(edges, places, "a:a=1+2+3", ",");
        allowed(edges, places, "a:a=1,a=2,a=3+1+1", ",");
        allowed(edges, places, "a:a=1,a=2,a=3,a=4+1+1", "");
        allowed(edges, places, "a:a=1+1+1,a=2", "+-*,");
        allowed(edges, places, "a:", LETTERS + "!");
        allowed(edges, places, "a:h=1,", LETTERS + "!");
        allowed(edges, places, "a:h=1,h=1,", LETTERS + "!");
        allowed(edges, places, "a:h=1,h=1,h=1,", LETTERS + "!");
        allowed(edges, places, "a:!a=1,", LETTERS + "!");
        allowed(edges, places, "e:h=1,", LETTERS + "!");
        allowed(edges, places, "ac:!", "ac");
        allowed(edges, places, "ac:!a=1,!", "c");
        allowed(edges, places, "ac:a=1,!", "ac");
        allowed(edges, places, "ac:!c=1,h=1,!", "a");
        allowed(edges, places, "ac:!c=1,!a=1,h=1,!", "");
        allowed(edges, places, "de:h=1,h=1,h=1,!", "d");
    }

    /** Of the beginnings of a rule, those that end with the colon or with an operand of an output are rules too. */
    private static void ends(Edges edges) {
        for (int length = 0; length <= WHOLE.length(); length++) {
            boolean isRule = length == 7 || length == 11 || length == 13 || length == 17;
            String text = WHOLE.substring(0, length);
            edges.of(0, "A buffer without a syntax error is a rule if").run((length > 0 ? "text " + text + " = " + length : "")
                + "; firstError() = " + length + "; addRule() = " + (isRule ? "0" : ARGUMENT) + "; ruleCount() = "
                + (isRule ? 1 : 0) + "; clearBuffer() = " + (isRule ? 0 : length));
        }
        rule(edges, "A buffer without a syntax error is a rule if", "h:");
        rule(edges, "A buffer without a syntax error is a rule if", "h:a=1+2*3");
    }
}
