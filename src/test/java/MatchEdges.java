/** Values, matches, firing and the policies, as the description tells them. */
final class MatchEdges {
    private static final String INDEX = "throws IndexOutOfBoundsException";
    private static final String STATE = "throws IllegalStateException";
    /** Rules that are enabled as long as channel e has a message. */
    private static final String THREE = "rule e:e=e = 0; rule e:e=e = 1; rule e:e=e = 2;";

    private MatchEdges() {
    }

    static void test(Edges edges) {
        values(edges);
        results(edges);
        ready(edges);
        guards(edges);
        firstMatch(edges);
        roomInOtherChannels(edges);
        roomInTheOwnChannel(edges);
        removal(edges);
        outputsInOrder(edges);
        consumedTickets(edges);
        policyFirst(edges);
        policyRotation(edges);
        policyLeast(edges);
    }

    private static void values(Edges edges) {
        String values = "In a guard and in an output, the letter of a channel";
        for (int d = 0; d <= 9; d++) {
            edges.of(0, values).run("rule e?e=" + d + ":f=" + d + " = 0; send(4, " + (d - 1) + ") = -1; send(4, " + (d + 1)
                + ") = -1; enabledRules() = 0; send(4, " + d + ") = -1; fire() = 0; messageAt(5, 0) = " + d);
        }
        // The message that is consumed counts, not the oldest one.
        edges.of(0, values).run("rule ae?e>a:f=a,g=e,!a=e-a = 0; send(0, 9) = 0; send(0, 6) = 1; send(4, 5) = -1;"
            + "send(4, 7) = -1; send(4, 8) = -1; fire() = 0; messageAt(5, 0) = 6; messageAt(6, 0) = 7; replyOf(1) = 1");
        edges.of(0, values).run("rule e:e=1,f=e = 0; send(4, -9999) = -1; fire() = 0; messageAt(5, 0) = -9999");
    }

    private static void result(Edges edges, String text, int a, int f, int due) {
        edges.of(0, "An output is computed from left to right").run("rule af:h=" + text + ",!a=" + text + " = 0; send(0, " + a
            + ") = 0; send(5, " + f + ") = -1; fire() = 0; messageAt(7, 0) = " + due + "; replyOf(0) = " + due);
    }

    private static void results(Edges edges) {
        result(edges, "1+2*3", 0, 0, 9);
        result(edges, "9-2-3", 0, 0, 4);
        result(edges, "2*3+4", 0, 0, 10);
        result(edges, "1-2*3", 0, 0, -3);
        result(edges, "a", 9999, 0, 9999);
        result(edges, "a", -9999, 0, -9999);
        result(edges, "a+1", 9998, 0, 9999);
        result(edges, "a+1", 9999, 0, 9999);
        result(edges, "a-1", -9998, 0, -9999);
        result(edges, "a-1", -9999, 0, -9999);
        // Limited at the end only: in between, the result goes beyond the limits and comes back.
        result(edges, "a+9-9", 9999, 0, 9999);
        result(edges, "a+1-2", 9999, 0, 9998);
        result(edges, "a-1+2", -9999, 0, -9998);
        result(edges, "a*a*0", 9999, 0, 0);
        result(edges, "a*2-f", 9999, 9999, 9999);
        result(edges, "a*2-f", 5001, 9999, 3);
        result(edges, "0-a*f", 9999, -1, 9999);
        result(edges, "a*a*a", 9999, 0, 9999);
        result(edges, "a*a*a", -9999, 0, -9999);
        result(edges, "a*a*f", -9999, 9999, 9999);
        // These would be in the range again if they wrapped round in int.
        result(edges, "a*a*f", 8192, 64, 9999);
        result(edges, "a*a*f", 8192, -64, -9999);
    }

    private static void ready(Edges edges) {
        for (int missing = 0; missing < 4; missing++) {
            Script s = edges.of(0, "A rule is ready if all channels of its pattern").run("rule cdef?c=9: = 0; readyRules() = 0");
            int tickets = 0;
            for (int i = 1; i < 4; i++) {
                int channel = 2 + (missing + i) % 4;
                s.run("send(" + channel + ", 0) = " + (channel < 4 ? tickets++ : -1) + "; readyRules() = 0");
            }
            s.run("send(" + (2 + missing) + ", 0) = " + (missing < 2 ? tickets : -1) + "; readyRules() = 1");
        }
        edges.of(0, "A rule is ready if all channels of its pattern").run("rule e: = 0; readyRules() = 0; send(4, 0) = -1;"
            + "readyRules() = 1; fire() = 0; readyRules() = 0; send(3, 0) = 0; send(5, 0) = -1; readyRules() = 0");
    }

    private static void guard(Edges edges, String guard, int a, int e, boolean holds) {
        edges.of(0, "A match of a rule chooses one message").run("rule ae?" + guard + ": = 0; matchOf(0, 0) = -1; send(0, " + a
            + ") = 0; matchOf(0, 0) = -1; send(4, " + e + ") = -1; matchOf(0, 0) = " + (holds ? 0 : -1)
            + "; matchOf(0, 4) = " + (holds ? 0 : -1));
    }

    private static void guards(Edges edges) {
        for (int difference = -1; difference <= 1; difference++) {
            guard(edges, "a<e", 5 + difference, 5, difference < 0);
            guard(edges, "a=e", 5 + difference, 5, difference == 0);
            guard(edges, "a>e", 5 + difference, 5, difference > 0);
            guard(edges, "e<a", 5 + difference, 5, difference > 0);
            guard(edges, "e=a", 5 + difference, 5, difference == 0);
            guard(edges, "e>a", 5 + difference, 5, difference < 0);
            guard(edges, "a<0", difference, 5, difference < 0);
            guard(edges, "9<e", 0, 9 + difference, difference > 0);
        }
        guard(edges, "a<e", -9999, 9999, true);
        guard(edges, "a>e", -9999, 9999, false);
        guard(edges, "a=a", 3, 4, true);
        guard(edges, "a<a", 3, 4, false);
        guard(edges, "e>e", 3, 4, false);
        guard(edges, "0=0", 3, 4, true);
        guard(edges, "0<9", 3, 4, true);
        guard(edges, "9<0", 3, 4, false);
        guard(edges, "8>8", 3, 4, false);
        String match = "A match of a rule chooses one message";
        // One message from each channel: a guard cannot compare two messages of the same channel.
        edges.of(0, match).run("rule e?e<e: = 0; send(4, 1) = -1; send(4, 2) = -1; send(4, 0) = -1; matchOf(0, 4) = -1");
        edges.of(0, match).run("rule cdef: = 0; send(2, -9999) = 0; send(3, 9999) = 1; send(4, 0) = -1; matchOf(0, 2) = -1;"
            + "send(5, 1) = -1; matchOf(0, 2) = 0; matchOf(0, 3) = 0; matchOf(0, 4) = 0; matchOf(0, 5) = 0");
    }

    private static void firstMatch(Edges edges) {
        String first = "The first match is the one with the lexicographically least";
        for (String guard : new String[] {"b=g", "g=b"}) {
            edges.of(0, first).run("rule bg?" + guard + ": = 0; send(1, 1) = 0; send(1, 2) = 1; send(6, 2) = -1; send(6, 1) = -1;"
                + "matchOf(0, 1) = 0; matchOf(0, 6) = 1; fire() = 0; messageAt(1, 0) = 2; messageAt(6, 0) = 2");
        }
        for (String guard : new String[] {"b>g", "g<b"}) {
            // The least index of channel b counts first, although channel g has a lower one with b's next message.
            edges.of(0, first).run("rule bg?" + guard + ": = 0; send(1, 5) = 0; send(1, 9) = 1; send(6, 8) = -1;"
                + "matchOf(0, 1) = 1; matchOf(0, 6) = 0; send(6, 4) = -1; matchOf(0, 1) = 0; matchOf(0, 6) = 1");
        }
        edges.of(0, first).run("rule adeh?d=h: = 0; send(0, 1) = 0; send(0, 2) = 1; send(3, 1) = 2; send(3, 2) = 3;"
            + "send(4, 1) = -1; send(4, 2) = -1; send(7, 3) = -1; send(7, 2) = -1; send(7, 2) = -1; matchOf(0, 0) = 0;"
            + "matchOf(0, 3) = 1; matchOf(0, 4) = 0; matchOf(0, 7) = 1");
        // The last one of 64 choices in two full queues.
        edges.of(0, first).run("rule de?d>e: = 0").each(0, 6, "send(3, 0) = #").run("send(3, 1) = 7")
            .each(0, 6, "send(4, 1) = -1").run("matchOf(0, 3) = -1; send(4, 0) = -1; matchOf(0, 3) = 7; matchOf(0, 4) = 7;"
            + "fire() = 0; matchOf(0, 3) = -1; queueLength(3) = 7; queueLength(4) = 7");
    }

    private static void roomInOtherChannels(Edges edges) {
        String room = "A rule is enabled if it has a match, and if there is room";
        for (int outputs = 1; outputs <= 4; outputs++) {
            String text = "f=1,f=2,f=3,f=4".substring(0, 4 * outputs - 1);
            edges.of(0, room).run("rule e:" + text + " = 0; send(4, 0) = -1; send(4, 0) = -1; send(4, 0) = -1")
                .each(1, 8 - outputs, "send(5, 0) = -1; enabledRules() = 1").run("send(5, 0) = -1; enabledRules() = 0;"
                + "readyRules() = 1; matchOf(0, 4) = 0; fireRule(0) = " + STATE + "; rule f: = 1; fireRule(1) = 1;"
                + "enabledRules() = 3; fireRule(0) = 1; queueLength(5) = 8; enabledRules() = 2");
        }
        for (int c = 0; c < 8; c++) {
            int from = c == 4 ? 5 : 4;
            edges.of(0, room).run("rule " + (char) ('a' + from) + ":" + (char) ('a' + c) + "=1 = 0; send(" + from + ", 0) = -1;"
                + "send(" + from + ", 0) = -1").each(0, 6, "send(" + c + ", 0) = " + (c < 4 ? "#" : "-1")).run(
                "enabledRules() = 1; fire() = 0; queueLength(" + c + ") = 8; enabledRules() = 0; isStuck() = true");
        }
        // A full queue is no hindrance to a rule that sends nothing to it.
        edges.of(0, room).run("rule e:f=1 = 0; send(4, 0) = -1").each(1, 8, "send(6, 0) = -1").run("enabledRules() = 1");
    }

    private static void roomInTheOwnChannel(Edges edges) {
        String room = "A rule is enabled if it has a match, and if there is room";
        edges.of(0, room).run("rule e:e=1 = 0; rule e:e=1,e=2 = 1; rule e:e=1,e=2,e=3 = 2; rule e:e=1,e=2,e=3,e=4 = 3")
            .each(1, 5, "send(4, 0) = -1; enabledRules() = 15").run("send(4, 0) = -1; enabledRules() = 7; send(4, 0) = -1;"
            + "enabledRules() = 3; send(4, 0) = -1; enabledRules() = 1; fireRule(1) = " + STATE + "; fireRule(0) = 1;"
            + "queueLength(4) = 8; messageAt(4, 7) = 1");
        edges.of(0, room).run("rule e:e=1,e=2,e=3,e=4 = 0").each(1, 5, "send(4, 0) = -1").run("fire() = 0; queueLength(4) = 8;"
            + "messageAt(4, 7) = 4; fire() = -1");
        // A reply takes no room.
        edges.of(0, room).run("rule a:!a=1,a=2 = 0; rule a:!a=1,a=2,a=3 = 1; rule ab:!a=1,!b=2 = 2")
            .each(0, 7, "send(0, 0) = #").run("enabledRules() = 1").each(8, 15, "send(1, 0) = #").run("enabledRules() = 5;"
            + "fireRule(2) = 1; queueLength(0) = 7; queueLength(1) = 7; enabledRules() = 7");
    }

    private static void removal(Edges edges) {
        String fires = "When a rule fires, the messages of its first match are removed";
        for (int place = 0; place < 8; place++) {
            Script s = edges.of(0, fires).run("rule a?a=9:!a=1 = 0");
            for (int i = 0; i < 8; i++) {
                s.run("send(0, " + (i == place ? 9 : 10 + i) + ") = " + i);
            }
            s.run("clock() = 8; fire() = 0; clock() = 9; queueLength(0) = 7; meanWait(0) = " + (8 - place) + ".0;"
                + "messageAt(0, 7) = " + INDEX);
            for (int i = 0; i < 7; i++) {
                s.run("messageAt(0, " + i + ") = " + (i < place ? 10 + i : 11 + i));
            }
            for (int t = 0; t < 8; t++) {
                s.run("ticketState(" + t + ") = " + (t == place ? 1 : 0));
            }
        }
        // The tickets and the time stamps move up with their messages.
        edges.of(0, fires).run("rule a?a=2: = 0; rule a:!a=a = 1; send(0, 1) = 0; send(0, 2) = 1; send(0, 3) = 2; fire() = 0;"
            + "ticketState(1) = 2; meanWait(0) = 2.0; fire() = 1; replyOf(0) = 1; meanWait(0) = 3.0; fire() = 1;"
            + "replyOf(2) = 3; meanWait(0) = 3.0");
    }

    private static void outputsInOrder(Edges edges) {
        String fires = "When a rule fires, the messages of its first match are removed";
        edges.of(0, fires).run("rule e: = 0; send(4, 1) = -1; fire() = 0; waitingChannels() = 0; clock() = 2");
        edges.of(0, fires).run("rule e:f=0,f=1,f=2,f=3 = 0; send(4, 1) = -1; fire() = 0; queueLength(5) = 4")
            .each(0, 3, "messageAt(5, #) = #");
        // The consumed message leaves first, and what the rule sends stands behind all that waits.
        edges.of(0, fires).run("rule e:e=e+9,e=e+8 = 0; send(4, 1) = -1; send(4, 2) = -1; fire() = 0; queueLength(4) = 3;"
            + "messageAt(4, 0) = 2; messageAt(4, 1) = 10; messageAt(4, 2) = 9");
    }

    private static void consumedTickets(Edges edges) {
        String none = "A message that is sent by an output has no ticket";
        for (int c = 0; c < 4; c++) {
            char letter = (char) ('a' + c);
            edges.of(0, none).run("rule e:" + letter + "=e = 0; rule " + letter + ":!" + letter + "=1 = 1; send(4, 5) = -1;"
                + "fire() = 0; ticketState(0) = " + INDEX + "; fire() = 1; ticketState(0) = " + INDEX + "; send(0, 0) = 0;"
                + "ticketState(0) = 0");
        }
        // Not even if the rule has consumed a message with a ticket from that channel.
        edges.of(0, none).run("rule a?a<2:a=a+1 = 0; rule a:!a=7 = 1; send(0, 1) = 0; fire() = 0; ticketState(0) = 2;"
            + "fire() = 1; ticketState(0) = 2; ticketState(1) = " + INDEX);

        String answered = "A consumed message with a ticket is answered";
        edges.of(0, answered).run("rule abcd:!a=1,!d=4,b=9 = 0").each(0, 3, "send(#, 0) = #; ticketState(#) = 0")
            .run("fire() = 0; replyOf(0) = 1; ticketState(1) = 2; ticketState(2) = 2; replyOf(3) = 4");
        edges.of(0, answered).run("rule a?a=9: = 0; rule a?a=8:!a=0 = 1").each(0, 7, "send(0, #) = #")
            .run("ticketState(7) = 0; fire() = -1; rule a?a=7:!a=0 = 2; fire() = 2; ticketState(7) = 1; replyOf(7) = 0;"
            + "ticketState(6) = 0; ticketState(0) = 0");
        // A message that waits longer than its ticket is known settles no other ticket.
        forgotten(edges.of(0, answered), ":!a=5");
        forgotten(edges.of(0, answered), ":");
    }

    /** Ticket 24 would lie where ticket 0 lay if the known tickets were kept in a ring. */
    private static void forgotten(Script s, String body) {
        s.run("rule a" + body + " = 0; rule b: = 1; send(0, 0) = 0");
        for (int t = 1; t <= 24; t++) {
            s.run("send(1, 0) = " + t + (t < 24 ? "; fireRule(1) = " + t : ""));
        }
        s.run("ticketState(0) = " + INDEX + "; ticketState(24) = 0; fireRule(0) = 1; ticketState(24) = 0; ticketState(0) = "
            + INDEX + "; ticketState(1) = 2; consumed(0) = 1");
    }

    private static void policyFirst(Edges edges) {
        String policy = "The runtime chooses among the enabled rules by its policy";
        edges.of(0, policy).run(THREE + "nextRule() = -1; send(4, 0) = -1; fire() = 0; fire() = 0; fireRule(2) = 1; fire() = 0");
        edges.of(0, policy).each(0, 6, "rule f: = #").run("rule e: = 7; send(4, 0) = -1; nextRule() = 7; send(5, 0) = -1;"
            + "nextRule() = 0; fire() = 0; fire() = 7; fire() = -1");
        edges.of(0, "The policy is 0 at first").run(THREE + "send(4, 0) = -1; fire() = 0; fire() = 0; setPolicy(0) = 0;"
            + "fire() = 0; firings(0) = 3");
    }

    private static void policyRotation(Edges edges) {
        String policy = "The runtime chooses among the enabled rules by its policy";
        // With eight rules, rule 0 follows rule 7, twice round.
        edges.of(0, policy).each(0, 7, "rule e:e=e = #").run("setPolicy(1) = 0; nextRule() = -1; send(4, 0) = -1")
            .each(0, 7, "nextRule() = #; fire() = #").each(0, 7, "fire() = #").run("nextRule() = 0; fireRule(7) = 3;"
            + "nextRule() = 0; fireRule(3) = 3; nextRule() = 4; fireRule(6) = 3; nextRule() = 7");
        // The rule that was fired last is the last one to be tried.
        edges.of(0, policy).run(THREE + "rule f:f=f = 3; setPolicy(1) = 0; send(5, 0) = -1; fire() = 3; fire() = 3;"
            + "send(4, 0) = -1; fire() = 0; fireRule(3) = 3; fire() = 0; fire() = 1; fire() = 2; fire() = 3");
        edges.of(0, policy).run("rule e:e=e = 0; setPolicy(1) = 0; send(4, 0) = -1; fire() = 0; fire() = 0; nextRule() = 0");
        // No rule has been fired yet: rule 0 first, and if it is not enabled, the next one.
        edges.of(0, policy).run(THREE + "setPolicy(1) = 0; send(4, 0) = -1; nextRule() = 0");
        edges.of(0, policy).run("rule f: = 0; rule e: = 1; rule e: = 2; setPolicy(1) = 0; send(4, 0) = -1; nextRule() = 1");
        // What was fired by another policy, or by fireRule, was fired last too.
        edges.of(0, policy).run(THREE + "send(4, 0) = -1; fire() = 0; setPolicy(1) = 0; nextRule() = 1; fireRule(1) = 1;"
            + "nextRule() = 2; setPolicy(2) = 1; fire() = 2; setPolicy(1) = 2; nextRule() = 0");
    }

    private static void policyLeast(Edges edges) {
        String policy = "The runtime chooses among the enabled rules by its policy";
        edges.of(0, policy).run(THREE + "setPolicy(2) = 0; nextRule() = -1; send(4, 0) = -1; fire() = 0; fire() = 1; fire() = 2;"
            + "fire() = 0; fireRule(1) = 2; fireRule(1) = 3; fire() = 2; fire() = 0; fire() = 2; nextRule() = 0");
        // A rule that is fired less often but not enabled does not count.
        edges.of(0, policy).run("rule f: = 0; rule e:e=e = 1; rule e:e=e = 2; setPolicy(2) = 0; send(4, 0) = -1; fire() = 1;"
            + "fire() = 2; fire() = 1; fire() = 2; send(5, 0) = -1; fire() = 0; fire() = 1");
        edges.of(0, policy).each(0, 7, "rule e:e=e = #").run("setPolicy(2) = 0; send(4, 0) = -1").each(0, 7, "fire() = #")
            .run("fire() = 0; nextRule() = 1");
    }
}
