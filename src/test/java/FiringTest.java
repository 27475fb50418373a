/** Promises 14 to 21: matching, choosing and firing. */
public final class FiringTest {
    public static void main(String[] args) {
        readyRules();
        guards();
        room();
        matchOf();
        matchOrder();
        policies();
        outputs();
        outputLimits();
        fireAndFireRule();
        run();
        isStuck();
        Script.end();
    }

    private static void readyRules() {
        new Script("14 readyRules").run("readyRules() = 0; rule a: = 0; rule aeh: = 1; rule h?h=1: = 2; rule b: = 3;"
            + "readyRules() = 0; send(0, 1) = 0; readyRules() = 1; send(4, 1) = -1; readyRules() = 1; send(7, 0) = -1;"
            + "readyRules() = 7; enabledRules() = 3; send(1, 0) = 1; readyRules() = 15; enabledRules() = 11;"
            + "fireRule(1) = 1; readyRules() = 8");
        Script full = new Script("14, 15 eight rules");
        for (int i = 0; i < 8; i++) {
            full.run("rule e: = " + i);
        }
        full.run("readyRules() = 0; enabledRules() = 0; send(4, 0) = -1; readyRules() = 255; enabledRules() = 255");
    }

    private static void guard(String guard, int a, int e, boolean holds) {
        new Script("15 guard " + guard).run("rule ae?" + guard + ": = 0; send(0, " + a + ") = 0; enabledRules() = 0;"
            + "send(4, " + e + ") = -1; readyRules() = 1; enabledRules() = " + (holds ? 1 : 0) + "; matchOf(0, 4) = "
            + (holds ? 0 : -1) + "; nextRule() = " + (holds ? 0 : -1));
    }

    private static void guards() {
        guard("a<e", 1, 2, true);
        guard("a<e", 2, 2, false);
        guard("a<e", 3, 2, false);
        guard("a=e", 1, 2, false);
        guard("a=e", 2, 2, true);
        guard("a=e", 3, 2, false);
        guard("a>e", 1, 2, false);
        guard("a>e", 2, 2, false);
        guard("a>e", 3, 2, true);
        guard("e<a", 1, 2, false);
        guard("e<a", 3, 2, true);
        guard("e>a", 1, 2, true);
        guard("e>a", 2, 2, false);
        guard("e=a", -7, -7, true);
        guard("a<0", -1, 0, true);
        guard("a<0", 0, -1, false);
        guard("0<a", 1, 0, true);
        guard("0<a", 0, 9, false);
        guard("9=e", 0, 9, true);
        guard("e=8", 8, 9, false);
        guard("e>8", 8, 9, true);
        guard("a=a", 5, 6, true);
        guard("a<a", 5, 6, false);
        guard("e>e", 5, 6, false);
        guard("3<4", 0, 0, true);
        guard("4<3", 0, 0, false);
        guard("4>3", 0, 0, true);
        guard("4=4", 0, 0, true);
        guard("4=5", 0, 0, false);
        guard("a>e", 9999, -9999, true);
        new Script("15 a guard on one channel takes one message").run("rule e?e<e: = 0; send(4, 1) = -1; send(4, 2) = -1;"
            + "send(4, 0) = -1; enabledRules() = 0; matchOf(0, 4) = -1");
    }

    private static void fill(Script s, int channel, int count) {
        for (int i = 0; i < count; i++) {
            s.runtime().send(channel, i);
        }
    }

    private static void room() {
        Script s = new Script("15 room behind the pattern").run("rule e:f=1 = 0; rule e:e=1 = 1; rule e:e=1,e=2 = 2;"
            + "rule e:f=1,f=2 = 3; rule ab:!a=1,!b=2 = 4");
        fill(s, 4, 8);
        s.run("enabledRules() = 11");
        fill(s, 5, 6);
        s.run("enabledRules() = 11");
        fill(s, 5, 1);
        s.run("enabledRules() = 3");
        fill(s, 5, 1);
        s.run("enabledRules() = 2; matchOf(0, 4) = 0; matchOf(2, 4) = 0; matchOf(3, 4) = 0; readyRules() = 15;"
            + "fireRule(0) = throws IllegalStateException; fireRule(2) = throws IllegalStateException");
        fill(s, 0, 8);
        fill(s, 1, 8);
        s.run("enabledRules() = 18; fireRule(4) = 1; queueLength(0) = 7; queueLength(1) = 7; fireRule(1) = 1;"
            + "queueLength(4) = 8; messageAt(4, 7) = 1; messageAt(4, 0) = 1; messageAt(4, 6) = 7");
        Script four = new Script("15 four outputs to one channel").run("rule e:e=1,e=2,e=3,e=4 = 0; rule e:h=1,h=2,h=3,h=4 = 1");
        fill(four, 4, 5);
        fill(four, 7, 4);
        four.run("enabledRules() = 3; fireRule(0) = 1; queueLength(4) = 8; enabledRules() = 2; fireRule(1) = 1;"
            + "queueLength(7) = 8; enabledRules() = 0; queueLength(4) = 7");
        for (int c = 0; c < 8; c++) {
            char other = c == 4 ? 'f' : 'e';
            Script each = new Script("15 room in channel " + c).run("rule " + other + ":" + (char) ('a' + c) + "=1 = 0");
            fill(each, other - 'a', 2);
            fill(each, c, 7);
            each.run("enabledRules() = 1; fire() = 0; queueLength(" + c + ") = 8; enabledRules() = 0; readyRules() = 1");
        }
    }

    private static void matchOf() {
        new Script("16 matchOf").run("matchOf(0, 0) = throws IndexOutOfBoundsException; rule af?a<f: = 0;"
            + "matchOf(1, 0) = throws IndexOutOfBoundsException; matchOf(-1, 9) = throws IndexOutOfBoundsException;"
            + "matchOf(0, 1) = throws IllegalArgumentException; matchOf(0, 8) = throws IllegalArgumentException;"
            + "matchOf(0, -1) = throws IllegalArgumentException; matchOf(0, 32) = throws IllegalArgumentException;"
            + "matchOf(0, 37) = throws IllegalArgumentException; matchOf(0, 0) = -1; matchOf(0, 5) = -1; send(0, 4) = 0;"
            + "matchOf(0, 0) = -1; send(5, 4) = -1; matchOf(0, 0) = -1; send(0, 9) = 1; send(0, 3) = 2;"
            + "matchOf(0, 0) = 2; matchOf(0, 5) = 0; send(5, 5) = -1; matchOf(0, 0) = 0; matchOf(0, 5) = 1;"
            + "matchOf(0, 4) = throws IllegalArgumentException; clock() = 5");
    }

    private static void matchOrder() {
        // The lower channel is less late first, whichever side of the guard it stands on.
        for (String guard : new String[] {"b=g", "g=b"}) {
            new Script("16 order of " + guard).run("rule bg?" + guard + ": = 0; send(1, 1) = 0; send(1, 2) = 1;"
                + "send(6, 2) = -1; send(6, 1) = -1; matchOf(0, 1) = 0; matchOf(0, 6) = 1; fire() = 0;"
                + "messageAt(1, 0) = 2; messageAt(6, 0) = 2");
        }
        new Script("16 channels outside the guard").run("rule aceg?c>g: = 0; send(0, 1) = 0; send(0, 2) = 1; send(2, 3) = 2;"
            + "send(2, 5) = 3; send(4, 1) = -1; send(4, 2) = -1; send(6, 9) = -1; send(6, 4) = -1; matchOf(0, 0) = 0;"
            + "matchOf(0, 2) = 1; matchOf(0, 4) = 0; matchOf(0, 6) = 1; fire() = 0; messageAt(0, 0) = 2;"
            + "messageAt(2, 0) = 3; messageAt(4, 0) = 2; messageAt(6, 0) = 9");
        new Script("16 a guard with a digit").run("rule ah?7=h: = 0; send(0, 7) = 0; send(7, 1) = -1; send(7, 7) = -1;"
            + "send(7, 7) = -1; matchOf(0, 0) = 0; matchOf(0, 7) = 1");
        new Script("16 the last of 64 choices").run("rule de?d>e: = 0; send(3, 0) = 0; send(3, 0) = 1; send(3, 0) = 2;"
            + "send(3, 0) = 3; send(3, 0) = 4; send(3, 0) = 5; send(3, 0) = 6; send(3, 1) = 7; send(4, 1) = -1;"
            + "send(4, 1) = -1; send(4, 1) = -1; send(4, 1) = -1; send(4, 1) = -1; send(4, 1) = -1; send(4, 1) = -1;"
            + "matchOf(0, 3) = -1; send(4, 0) = -1; matchOf(0, 3) = 7; matchOf(0, 4) = 7");
    }

    private static void policies() {
        String three = "rule e:e=e = 0; rule f:f=f = 1; rule e:e=e = 2;";
        new Script("17 first").run(three + "nextRule() = -1; send(5, 1) = -1; nextRule() = 1; send(4, 1) = -1;"
            + "nextRule() = 0; fire() = 0; nextRule() = 0; fireRule(2) = 1; nextRule() = 0");
        new Script("17 rotation").run(three + "setPolicy(1) = 0; nextRule() = -1; send(4, 1) = -1; send(5, 1) = -1;"
            + "nextRule() = 0; fire() = 0; nextRule() = 1; fire() = 1; fire() = 2; nextRule() = 0; fire() = 0;"
            + "fireRule(2) = 2; fire() = 0; fireRule(0) = 4; fire() = 1; fire() = 2; fire() = 0");
        new Script("17 rotation passes over").run(three + "setPolicy(1) = 0; send(4, 1) = -1; fire() = 0; fire() = 2;"
            + "fire() = 0; rule e: = 3; fire() = 2; fire() = 3; fire() = -1; send(5, 0) = -1; fire() = 1; fire() = 1;"
            + "nextRule() = 1");
        new Script("17 rotation behind first").run(three + "send(4, 1) = -1; fire() = 0; setPolicy(1) = 0; nextRule() = 2");
        new Script("17 least").run(three + "setPolicy(2) = 0; nextRule() = -1; send(4, 1) = -1; nextRule() = 0; fire() = 0;"
            + "fire() = 2; fire() = 0; fire() = 2; send(5, 1) = -1; nextRule() = 1; fire() = 1; fire() = 1; fire() = 0;"
            + "nextRule() = 1; fire() = 1; fire() = 2; fire() = 0; rule e: = 3; nextRule() = 3; fire() = 3; nextRule() = 1");
    }

    private static void output(String text, int a, int f, int value) {
        new Script("18 output " + text).run("rule af:h=" + text + ",!a=" + text + " = 0; send(0, " + a + ") = 0; send(5, "
            + f + ") = -1; fire() = 0; messageAt(7, 0) = " + value + "; replyOf(0) = " + value + "; waitingChannels() = 128");
    }

    private static void outputs() {
        output("7", 1, 2, 7);
        output("a", 5, 2, 5);
        output("f", 5, 2, 2);
        output("a+f", 5, 2, 7);
        output("a-f", 5, 2, 3);
        output("f-a", 5, 2, -3);
        output("a*f", 5, -2, -10);
        output("1+2*3", 0, 0, 9);
        output("a-f-1", 5, 2, 2);
        output("a-f*f", 5, 2, 6);
        output("a*f+9", 5, 2, 19);
        output("0-a*f", 5, 2, -10);
        output("a+a", -9999, 0, -9999);
        output("a+a-a", 9999, 0, 9999);
        output("a*f-f", 9999, 1, 9998);
        new Script("18 outputs in their order").run("rule e:f=e,g=1,f=e+1,e=e+2 = 0; send(4, 10) = -1; send(4, 50) = -1;"
            + "fire() = 0; queueLength(5) = 2; messageAt(5, 0) = 10; messageAt(5, 1) = 11; messageAt(6, 0) = 1;"
            + "queueLength(4) = 2; messageAt(4, 0) = 50; messageAt(4, 1) = 12; clock() = 3; fire() = 0;"
            + "messageAt(5, 2) = 50; messageAt(4, 0) = 12; messageAt(4, 1) = 52");
        new Script("18 an output has no ticket").run("rule e:a=e = 0; rule a:!a=1 = 1; send(4, 1) = -1; fire() = 0;"
            + "ticketState(0) = throws IndexOutOfBoundsException; fire() = 1;"
            + "ticketState(0) = throws IndexOutOfBoundsException; send(0, 1) = 0");
        new Script("18 the stamp of an output").run("rule e:f=e = 0; rule f: = 1; send(4, 1) = -1; fire() = 0;"
            + "send(7, 0) = -1; send(7, 0) = -1; fire() = 1; clock() = 5; meanWait(5) = 3.0; meanWait(4) = 1.0");
    }

    private static void outputLimits() {
        output("a*a", 99, 0, 9801);
        output("a*a", 100, 0, 9999);
        output("a*f", 100, -100, -9999);
        output("a*f*f", 9999, 9999, 9999);
        output("a*f*f", -9999, 9999, -9999);
        output("a*f*f", 9999, -9999, 9999);
        output("a*a*f", 9999, -9999, -9999);
        output("a*f*0", 9999, 9999, 0);
        output("a+a-f", 9000, 8001, 9999);
        output("a+a-f", 9000, 8002, 9998);
        output("a+f*a", 1, 9998, 9999);
        output("a-f", -9999, 1, -9999);
        output("a-f", -9998, 1, -9999);
        output("a+f", 9998, 1, 9999);
        // In int arithmetic this product would wrap round to a number in the range.
        output("a*a*f", 8192, 64, 9999);
    }

    private static void fireAndFireRule() {
        new Script("18 fire without a rule that is enabled").run("fire() = -1; rule ef: = 0; send(4, 1) = -1; fire() = -1;"
            + "clock() = 1; firings(0) = 0; queueLength(4) = 1; send(5, 1) = -1; fire() = 0; clock() = 3;"
            + "waitingChannels() = 0; firings(0) = 1; fire() = -1");
        new Script("19 fireRule").run("fireRule(0) = throws IndexOutOfBoundsException; rule e:f=e = 0; rule e:g=e = 1;"
            + "fireRule(2) = throws IndexOutOfBoundsException; fireRule(-1) = throws IndexOutOfBoundsException;"
            + "fireRule(1) = throws IllegalStateException; send(4, 7) = -1; send(4, 8) = -1; fireRule(1) = 1;"
            + "fireRule(1) = 2; messageAt(6, 0) = 7; messageAt(6, 1) = 8; fireRule(1) = throws IllegalStateException;"
            + "clock() = 4; firings(0) = 0; setPolicy(2) = 0; send(4, 9) = -1; nextRule() = 0; fireRule(1) = 3");
        new Script("19 a guard that is false").run("rule e?e=1: = 0; send(4, 2) = -1;"
            + "fireRule(0) = throws IllegalStateException; send(4, 1) = -1; fireRule(0) = 1; messageAt(4, 0) = 2");
    }

    private static void run() {
        new Script("20 run").run("run(0) = throws IllegalArgumentException; run(101) = throws IllegalArgumentException;"
            + "run(-1) = throws IllegalArgumentException; run(-2147483648) = throws IllegalArgumentException;"
            + "run(2147483647) = throws IllegalArgumentException; run(1) = 0; run(100) = 0; rule e:e=e+1 = 0; run(5) = 0;"
            + "send(4, 0) = -1; run(1) = 1; run(5) = 5; messageAt(4, 0) = 6; run(100) = 100; messageAt(4, 0) = 106;"
            + "firings(0) = 106; clock() = 107");
        new Script("20 run ends").run("rule e: = 0; send(4, 0) = -1; send(4, 0) = -1; send(4, 0) = -1; run(2) = 2;"
            + "run(2) = 1; run(2) = 0; clock() = 6");
        new Script("20 run by the policy").run("rule e:e=1 = 0; rule e:e=2 = 1; setPolicy(1) = 0; send(4, 0) = -1;"
            + "run(5) = 5; firings(0) = 3; firings(1) = 2; setPolicy(0) = 1; run(4) = 4; firings(0) = 7;"
            + "setPolicy(2) = 0; run(7) = 7; firings(0) = 8; firings(1) = 8");
    }

    private static void isStuck() {
        new Script("21 isStuck").run("isStuck() = false; rule ae: = 0; isStuck() = false; send(0, 0) = 0; isStuck() = true;"
            + "send(4, 0) = -1; isStuck() = false; send(4, 0) = -1; isStuck() = false; fire() = 0; isStuck() = true;"
            + "rule e: = 1; isStuck() = false; fire() = 1; isStuck() = false");
        Script s = new Script("21 stuck for want of room").run("rule e:f=0 = 0");
        fill(s, 5, 8);
        s.run("isStuck() = true; send(4, 0) = -1; isStuck() = true; rule f: = 1; isStuck() = false");
    }
}
