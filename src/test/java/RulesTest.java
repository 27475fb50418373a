/** Promises 1 to 9: a new object, the buffer, the rules and the policy. */
public final class RulesTest {
    public static void main(String[] args) {
        newObject();
        append();
        clearBuffer();
        firstError();
        readingToTheEnd();
        addRule();
        addRuleErrors();
        removeRule();
        removeRuleFiredLast();
        patternAndCount();
        setPolicy();
        Script.end();
    }

    private static void newObject() {
        Script s = new Script("1 a new object").run("ruleCount() = 0; waitingChannels() = 0;"
            + "readyRules() = 0; enabledRules() = 0; nextRule() = -1; fire() = -1; run(100) = 0;"
            + "isStuck() = false; clock() = 0; firstError() = 0; restore() = throws IllegalStateException;"
            + "addRule() = throws IllegalArgumentException; clearBuffer() = 0; setPolicy(0) = 0;"
            + "ticketState(0) = throws IndexOutOfBoundsException;"
            + "firings(0) = throws IndexOutOfBoundsException");
        for (int c = 0; c < 8; c++) {
            s.run("queueLength(" + c + ") = 0; consumed(" + c + ") = 0; meanWait(" + c + ") = 0.0");
        }
        Script.report("1 NONE", String.valueOf(JoinRuntime.NONE), "-1");
        new Script("1 objects share nothing").run("queueLength(0) = 0; send(0, 1) = 0");
        new Script("1 objects share nothing").run("queueLength(0) = 0; ticketState(0) = throws IndexOutOfBoundsException");
    }

    private static void append() {
        Script s = new Script("2 append").run("append(31) = throws IllegalArgumentException;"
            + "append(127) = throws IllegalArgumentException; append(-1) = throws IllegalArgumentException;"
            + "append(2147483647) = throws IllegalArgumentException;"
            + "append(-2147483648) = throws IllegalArgumentException; append(32) = 1; append(126) = 2");
        for (int i = 3; i <= 40; i++) {
            s.run("append(64) = " + i);
        }
        s.run("append(64) = throws IllegalStateException; append(126) = throws IllegalStateException;"
            + "append(31) = throws IllegalArgumentException; append(127) = throws IllegalArgumentException;"
            + "firstError() = 0; clearBuffer() = 40; append(97) = 1");
    }

    private static void clearBuffer() {
        new Script("3 clearBuffer").run("clearBuffer() = 0; text ab?c = 4; firstError() = 3; clearBuffer() = 4;"
            + "clearBuffer() = 0; firstError() = 0; text h: = 2; addRule() = 0; clearBuffer() = 0;"
            + "ruleCount() = 1; save() = 0; text a = 1; clearBuffer() = 1; restore() = 0");
    }

    private static void error(String text, int index) {
        new Script("4 firstError of " + text).run("text " + text + " = " + text.length()
            + "; firstError() = " + index + "; addRule() = throws IllegalArgumentException"
            + "; ruleCount() = 0; firstError() = " + index + "; clearBuffer() = " + text.length());
    }

    private static void firstError() {
        String[] wrongAtTheEnd = {
            // the pattern
            "i", "A", "`", "0", ":", "?", "!", "=", ",", "~", "aa", "ba", "abb", "abcde", "defgh", "ha", "hh",
            "a,", "a=", "a!", "abcd,", "a0", "gi",
            // the guard
            "a??", "a?:", "a?b", "a?<", "a?!", "a?i", "a?/", "ab?c", "a?aa", "a?a:", "a?a!", "a?a+", "a?a?",
            "a?a<<", "a?a<b", "a?a=:", "a?1<a<", "a?1<2,", "a?1<2?", "a?1<2a", "a?1<22", "a?12",
            // the outputs
            "a::", "a:,", "a:=", "a:1", "a:i", "a:?", "a:!!", "a:!b", "b:!a", "e:!e", "abef:!e", "a:!=", "a:!1",
            "a:aa", "a:a:", "a:a!", "a:a,", "a:!aa", "a:!a,", "a:b==", "a:b=b", "a:b=,", "a:b=+", "a:b=!", "a:b=:",
            "a:b=aa", "a:b=12", "a:b=a/", "a:b=a=", "a:b=a:", "a:b=a!", "a:b=a<", "a:b=a+b", "a:b=a++", "a:b=a+,",
            "a:b=a+a1", "a:b=a+1*2+", "a:b=a+1*2-", "a:b=a+1*2*", "a:b=a+1*23", "a:b=1,,", "a:b=1,1", "a:b=1,=",
            "a:!a=1,!a", "ab:!b=1,!a=1,!b", "a:a=1,a=2,a=3,a=4,", "a:a=1,a=2,a=3,a=4+1+1,",
            "a:a=1,a=2,a=3,a=4+1+1+", "a:!a=1,e=2,e=3,f=4,", "ad:!d=a-d,!c", "bd:!b=1,!d=2,!a",
        };
        for (String text : wrongAtTheEnd) {
            error(text, text.length() - 1);
        }
        error("a:b=bb=:", 4);
        error("aa:a=1", 1);
        error("e:!e=1", 3);
        error("xa:", 0);
        new Script("4 an error stays first").run("text ba = 2; firstError() = 1; text : = 3; firstError() = 1;"
            + "text zz = 5; firstError() = 1");
        new Script("4 a blank").run("append(97) = 1; append(32) = 2; append(58) = 3; firstError() = 1");
    }

    private static void readingToTheEnd() {
        String[] unfinished = {
            "a", "abcd", "h", "a?", "a?a", "a?9", "a?a<", "a?a<1", "a?0=0", "a:!", "a:!a", "a:h", "a:h=", "a:h=1+",
            "a:h=1+2*", "a:h=1,", "a:h=1,!", "a:h=1,h", "a:h=1,!a=", "e:!", "a:!a=1,!", "a:a=1,a=2,a=3,!",
        };
        for (String text : unfinished) {
            new Script("4, 5 unfinished " + text).run("text " + text + " = " + text.length()
                + "; firstError() = " + text.length() + "; addRule() = throws IllegalArgumentException");
        }
        String[] whole = {
            "a:", "h:", "abcd:", "efgh:", "aceg?a<g:", "a?a=a:", "a?0>9:", "a?0=a:", "a:!a=a", "d:!d=9", "a:h=0",
            "a:h=a+a", "a:h=a-1*a", "a:a=1,a=2,a=3,a=4", "abcd:!d=1,!c=2,!b=3,!a=4", "ab?a>b:!a=a-b*2,b=b+1",
            "a:h=1+2+3,g=1-2-3,f=1*2*3", "ad:!d=1,d=1,a=1,!a=1", "abcd?a<b:!a=1+2+3,!b=1+2+3,!c=1+2+3",
        };
        for (String text : whole) {
            new Script("4, 5 whole " + text).run("text " + text + " = " + text.length()
                + "; firstError() = " + text.length() + "; addRule() = 0; ruleCount() = 1; firstError() = 0");
        }
        new Script("5 forty characters").run("text abcd:!a=a+b+c,!b=a+b+c,!c=a+b+c,!d=a+b+ = 39; firstError() = 39;"
            + "addRule() = throws IllegalArgumentException; text c = 40; firstError() = 40; addRule() = 0");
    }

    private static void addRule() {
        new Script("5 addRule").run("rule a: = 0; rule b: = 1; rule c: = 2; rule c: = 3; firstError() = 0;"
            + "clearBuffer() = 0; ruleCount() = 4; save() = 0; rule d: = 4; restore() = throws IllegalStateException");
        new Script("5 a new rule has not fired").run("rule e: = 0; rule f: = 1; send(5, 1) = -1; fireRule(1) = 1;"
            + "removeRule(1) = 1; rule f: = 1; firings(1) = 0");
        new Script("5 a new rule keeps what waits").run("send(4, 1) = -1; rule e: = 0; enabledRules() = 1; clock() = 1");
        new Script("5 a rule keeps nothing of the text read before").run("text af?a<f:!a=1,g=2 = 15; firstError() = 15;"
            + "clearBuffer() = 15; rule a: = 0; patternOf(0) = 1; send(0, 5) = 0; fire() = 0; ticketState(0) = 2;"
            + "waitingChannels() = 0");
    }

    private static void addRuleErrors() {
        Script s = new Script("5 at most 8 rules");
        for (int i = 0; i < 8; i++) {
            s.run("rule a: = " + i);
        }
        s.run("text b: = 2; save() = 0; addRule() = throws IllegalStateException; restore() = 0; ruleCount() = 8;"
            + "text : = 3; addRule() = throws IllegalArgumentException; clearBuffer() = 3;"
            + "addRule() = throws IllegalArgumentException; removeRule(3) = 7; rule b: = 7; patternOf(7) = 2;"
            + "patternOf(8) = throws IndexOutOfBoundsException");
        new Script("5 a wrong buffer keeps the saved state").run("send(4, 1) = -1; save() = 1; text a = 1;"
            + "addRule() = throws IllegalArgumentException; restore() = 1; firstError() = 1");
    }

    private static void removeRule() {
        new Script("6 removeRule").run("removeRule(0) = throws IndexOutOfBoundsException; rule e: = 0; rule f: = 1;"
            + "rule g: = 2; send(4, 1) = -1; send(6, 1) = -1; send(6, 2) = -1; run(9) = 3; firings(2) = 2; save() = 0;"
            + "removeRule(3) = throws IndexOutOfBoundsException; removeRule(-1) = throws IndexOutOfBoundsException;"
            + "restore() = 0; removeRule(1) = 2; restore() = throws IllegalStateException; patternOf(0) = 16;"
            + "patternOf(1) = 64; firings(0) = 1; firings(1) = 2; firings(2) = throws IndexOutOfBoundsException;"
            + "consumed(6) = 2; removeRule(0) = 1; patternOf(0) = 64; firings(0) = 2; shareOf(0) = 1.0;"
            + "removeRule(0) = 0; ruleCount() = 0; clock() = 6");
        new Script("6 the removed rule's body goes").run("rule e:f=1 = 0; rule e:f=2 = 1; rule e:f=3 = 2;"
            + "removeRule(0) = 2; send(4, 0) = -1; fire() = 0; messageAt(5, 0) = 2; rule e:f=4 = 2; send(4, 0) = -1;"
            + "fireRule(2) = 1; messageAt(5, 1) = 4; send(4, 0) = -1; fireRule(1) = 1; messageAt(5, 2) = 3");
        new Script("6 a text read later leaves the rules alone").run("rule e:f=1 = 0; rule e:f=2 = 1; removeRule(0) = 1;"
            + "rule e:f=3 = 1; text g:h=9 = 5; firstError() = 5; patternOf(0) = 16; send(4, 0) = -1; fire() = 0;"
            + "messageAt(5, 0) = 2; send(4, 0) = -1; fireRule(1) = 1; messageAt(5, 1) = 3");
    }

    /** Four rules that are always enabled, the rotation policy, and rule 'last' fired last. */
    private static Script fourRules(int last) {
        return new Script("6 rule " + last + " fired last").run("rule e:e=e = 0; rule e:e=e = 1; rule e:e=e = 2;"
            + "rule e:e=e = 3; setPolicy(1) = 0; send(4, 1) = -1; fireRule(" + last + ") = 1");
    }

    private static void removeRuleFiredLast() {
        fourRules(2).run("nextRule() = 3; removeRule(3) = 3; nextRule() = 0");
        fourRules(2).run("removeRule(0) = 3; nextRule() = 2; fire() = 2; nextRule() = 0");
        fourRules(2).run("removeRule(1) = 3; nextRule() = 2");
        fourRules(2).run("removeRule(2) = 3; nextRule() = 2; removeRule(1) = 2; nextRule() = 1;"
            + "removeRule(0) = 1; nextRule() = 0");
        fourRules(3).run("removeRule(3) = 3; nextRule() = 0");
        fourRules(0).run("nextRule() = 1; removeRule(0) = 3; nextRule() = 0");
        fourRules(1).run("removeRule(0) = 3; nextRule() = 1; removeRule(0) = 2; nextRule() = 0;"
            + "removeRule(0) = 1; nextRule() = 0; removeRule(0) = 0; nextRule() = -1");
        fourRules(0).run("removeRule(2) = 3; nextRule() = 1");
    }

    private static void patternAndCount() {
        new Script("7, 8 patterns").run("ruleCount() = 0; patternOf(0) = throws IndexOutOfBoundsException; rule a: = 0;"
            + "ruleCount() = 1; rule h:a=1 = 1; rule abcd: = 2; rule efgh?e<1:a=e = 3; rule bdg:!b=g,c=1 = 4;"
            + "ruleCount() = 5; patternOf(0) = 1; patternOf(1) = 128; patternOf(2) = 15; patternOf(3) = 240;"
            + "patternOf(4) = 74; patternOf(5) = throws IndexOutOfBoundsException;"
            + "patternOf(-1) = throws IndexOutOfBoundsException;"
            + "patternOf(-2147483648) = throws IndexOutOfBoundsException; removeRule(2) = 4; ruleCount() = 4;"
            + "patternOf(2) = 240; text a = 1; ruleCount() = 4");
    }

    private static void setPolicy() {
        new Script("9 setPolicy").run("setPolicy(2) = 0; setPolicy(1) = 2; setPolicy(3) = throws IllegalArgumentException;"
            + "setPolicy(-1) = throws IllegalArgumentException; setPolicy(1) = 1; setPolicy(0) = 1; setPolicy(2) = 0;"
            + "save() = 0; setPolicy(0) = 2; restore() = 0; setPolicy(1) = 0");
    }
}
