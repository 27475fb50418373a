/** What all promises share: the channels, the clock, the tickets, the exceptions and the examples. */
final class DescriptionEdges {
    private static final String INDEX = "throws IndexOutOfBoundsException";
    private static final String ARGUMENT = "throws IllegalArgumentException";
    private static final String STATE = "throws IllegalStateException";

    private DescriptionEdges() {
    }

    static void test(Edges edges) {
        edges.none(0, "A runtime for join patterns", "The constants:", "The constructor and the methods follow");
        manyTickets(edges);
        manyFirings(edges);
        channels(edges);
        messages(edges);
        clock(edges);
        tickets(edges);
        refusedCalls(edges);
        severalExceptions(edges);
        examples(edges);
    }

    /** This test and the next one count the calls, because run asks for the digest between them. */
    private static void manyTickets(Edges edges) {
        Script s = edges.of(0, "An object is used for at most 512 calls");
        String rule = "a:!a=a";
        s.due("addRule()", s.ask("rule " + rule), 0);
        int calls = rule.length() + 1;
        int given = 0;
        while (calls < 511) {
            s.due("send", s.ask("send(0, " + given + ")"), given);
            s.due("fire()", s.ask("fire()"), 0);
            given++;
            calls += 2;
        }
        s.due("the last call", s.ask("replyOf(" + (given - 24) + ")"), given - 24);
        s.due("the number of calls", calls + 1, 512);
    }

    private static void manyFirings(Edges edges) {
        Script s = edges.of(0, "An object is used for at most 512 calls");
        s.ask("rule e:e=e+1");
        s.ask("rule f:");
        s.ask("send(5, 0)");
        s.ask("send(4, 0)");
        int calls = 13;
        int fired = 0;
        while (calls < 506) {
            s.due("run(100)", s.ask("run(100)"), 100);
            fired += 100;
            calls++;
        }
        s.due("fireRule(1)", s.ask("fireRule(1)"), 1);
        s.due("clock()", s.ask("clock()"), fired + 3);
        s.due("firings(0)", s.ask("firings(0)"), fired);
        s.due("consumed(4)", s.ask("consumed(4)"), fired);
        s.due("the longest wait", s.ask("meanWait(5)"), (double) (fired + 2));
        s.due("the last call", s.ask("messageAt(4, 0)"), 9999);
        s.due("the number of calls", calls + 6, 512);
    }

    private static void channels(Edges edges) {
        Script letters = edges.of(0, "There are 8 channels, numbered 0 to 7");
        for (int c = 0; c < 8; c++) {
            letters.run("rule " + (char) ('a' + c) + ": = " + c + "; patternOf(" + c + ") = " + (1 << c));
        }
        letters.each(0, 7, "queueLength(#) = 0; consumed(#) = 0").run("queueLength(-1) = " + INDEX + "; queueLength(8) = "
            + INDEX + "; text i = 1; firstError() = 0; clearBuffer() = 1; text ` = 1; firstError() = 0; clearBuffer() = 1;"
            + "text A = 1; firstError() = 0");

        for (int c = 0; c < 8; c++) {
            Script queue = edges.of(0, "Each channel has a queue of at most 8 messages");
            queue.each(0, 7, "send(" + c + ", #) = " + (c < 4 ? "#" : "-1") + "; messageAt(" + c + ", 0) = 0;"
                + "messageAt(" + c + ", #) = #");
            queue.run("send(" + c + ", 8) = " + STATE + "; queueLength(" + c + ") = 8; rule " + (char) ('a' + c) + ": = 0;"
                + "fire() = 0; messageAt(" + c + ", 0) = 1; queueLength(" + c + ") = 7; send(" + c + ", 8) = "
                + (c < 4 ? 8 : -1) + "; messageAt(" + c + ", 7) = 8; messageAt(" + c + ", 0) = 1");
        }

        edges.of(0, "The channels 0 to 3 are synchronous").each(0, 3, "send(#, 1) = #; ticketState(#) = 0")
            .each(4, 7, "send(#, 1) = -1").run("ticketState(4) = " + INDEX + "; rule e:d=e,a=e = 0; fire() = 0;"
            + "queueLength(3) = 2; ticketState(4) = " + INDEX + "; send(3, 1) = 4; send(4, 1) = -1; ticketState(5) = " + INDEX);
    }

    private static void messages(Edges edges) {
        Script values = edges.of(0, "A message has a value from -9999 to 9999").run("send(0, -9999) = 0; send(4, 9999) = -1;"
            + "send(0, -10000) = " + ARGUMENT + "; send(4, 10000) = " + ARGUMENT + "; messageAt(0, 0) = -9999;"
            + "messageAt(4, 0) = 9999");
        // The time stamps are 1 and 2; the first message has ticket 0, the second one has none.
        values.due("digest()", values.ask("digest()"), Script.hash(0,
            1, -9999, 1, 0, 0, 0, 0, 1, 9999, 2, -1, 0, 0, 0,
            0, 0, 0, 0, 0, 0, 0, 0, 0, 0, 0, 0, 0, 0, 0, 0,
            1, 0, 2, 0, 0, 0, -1, 0, 0));
    }

    private static void clock(Edges edges) {
        edges.of(0, "The clock is 0 at first").run("clock() = 0; rule e: = 0; save() = 0; fire() = -1; clock() = 0");

        edges.of(0, "It increases by 1 with each message").run("rule e: = 0; rule f:g=1,g=2,g=3,g=4 = 1; rule a:!a=1 = 2;"
            + "clock() = 0; send(0, 1) = 0; clock() = 1; send(4, 1) = -1; clock() = 2; send(5, 1) = -1; clock() = 3;"
            + "fire() = 0; clock() = 4; fire() = 1; clock() = 5; fireRule(2) = 1; clock() = 6; fire() = -1; clock() = 6;"
            + "fireRule(2) = " + STATE + "; send(8, 1) = " + INDEX + "; send(0, 10000) = " + ARGUMENT + "; clock() = 6")
            .each(1, 4, "send(6, 1) = -1").run("clock() = 10; send(6, 1) = " + STATE + "; clock() = 10; rule g: = 3;"
            + "clock() = 10; run(3) = 3; clock() = 13; run(100) = 5; clock() = 18; run(100) = 0; clock() = 18");

        edges.of(0, "The time stamp of a message").run("rule e:f=e,g=e = 0; rule f: = 1; rule g: = 2; send(4, 1) = -1;"
            + "fire() = 0; meanWait(4) = 1.0; fire() = 1; meanWait(5) = 1.0; fire() = 2; meanWait(6) = 2.0; clock() = 4;"
            + "send(4, 1) = -1; send(7, 1) = -1; fire() = 0; meanWait(4) = 1.5");
    }

    private static void tickets(Edges edges) {
        edges.of(0, "Tickets are numbered from 0").run("ticketState(0) = " + INDEX + "; send(3, 1) = 0; send(4, 1) = -1;"
            + "send(0, 1) = 1; send(0, 10000) = " + ARGUMENT + "; send(1, 1) = 2; rule a:b=1 = 0; fire() = 0; send(3, 1) = 3;"
            + "ticketState(4) = " + INDEX);

        // Up to 100 tickets, so that the places of the known ones are used again more than four times.
        Script known = edges.of(0, "The runtime knows the 24 latest tickets").run("rule a:!a=a = 0");
        for (int t = 0; t < 100; t++) {
            int oldest = Math.max(0, t - 23);
            known.run("send(0, " + t + ") = " + t + "; ticketState(" + t + ") = 0; ticketState(" + oldest + ") = "
                + (t == 0 ? 0 : 1) + "; ticketState(" + (oldest - 1) + ") = " + INDEX + "; ticketState(" + (t + 1) + ") = "
                + INDEX + "; fire() = 0; replyOf(" + oldest + ") = " + oldest + "; replyOf(" + (oldest - 1) + ") = " + INDEX);
        }

        edges.of(0, "A ticket is waiting (0)").run("rule a:!a=1 = 0; rule b: = 1; send(0, 1) = 0; send(1, 1) = 1;"
            + "send(2, 1) = 2; ticketState(0) = 0; ticketState(1) = 0; run(9) = 2; ticketState(0) = 1; ticketState(1) = 2;"
            + "ticketState(2) = 0");
    }

    /** Script asks for the digest before and after; these look at what the digest does not tell. */
    private static void refusedCalls(Edges edges) {
        String nothing = "A call that throws an exception changes nothing";
        String rotation = "rule e:e=1 = 0; rule e:e=2 = 1; rule e:e=3 = 2; setPolicy(1) = 0; send(4, 0) = -1; fire() = 0;";
        edges.of(0, nothing).run(rotation + "rule a: = 3; fireRule(3) = " + STATE + "; fireRule(4) = " + INDEX
            + "; fireRule(-1) = " + INDEX + "; removeRule(4) = " + INDEX + "; removeRule(-1) = " + INDEX + "; run(0) = "
            + ARGUMENT + "; run(101) = " + ARGUMENT + "; setPolicy(3) = " + ARGUMENT + "; setPolicy(-1) = " + ARGUMENT
            + "; clock() = 2; nextRule() = 1; ruleCount() = 4; fire() = 1; messageAt(4, 0) = 2; setPolicy(1) = 1");

        edges.of(0, nothing).run(rotation + "save() = 1; fire() = 1; text b:c= = 4; addRule() = " + ARGUMENT
            + "; removeRule(3) = " + INDEX + "; clearBuffer() = 4; restore() = 1; clock() = 2; messageAt(4, 0) = 1");

        // A rule that is read but refused must not show in the rules that stand.
        edges.of(0, nothing).each(0, 7, "rule e?e>2:f=#,g=e = #").run("text h:a=9 = 5; save() = 0; addRule() = " + STATE
            + "; restore() = 0; firstError() = 5; patternOf(7) = 16; send(4, 2) = -1; enabledRules() = 0; send(4, 3) = -1;"
            + "enabledRules() = 255; fireRule(7) = 1; messageAt(5, 0) = 7; messageAt(6, 0) = 3; clearBuffer() = 5");

        edges.of(0, nothing).each(1, 40, "append(97) = #").run("append(98) = " + STATE + "; append(31) = " + ARGUMENT
            + "; append(127) = " + ARGUMENT + "; clearBuffer() = 40; append(31) = " + ARGUMENT + "; append(127) = " + ARGUMENT
            + "; clearBuffer() = 0");

        edges.of(0, nothing).each(0, 7, "send(1, #) = #").run("send(1, 8) = " + STATE + "; send(1, 10000) = " + ARGUMENT
            + "; send(8, 8) = " + INDEX + "; send(-1, 8) = " + INDEX + "; queueLength(1) = 8; messageAt(1, 7) = 7; clock() = 8;"
            + "send(0, 0) = 8; replyOf(8) = " + STATE + "; ticketState(9) = " + INDEX + "; matchOf(0, 1) = " + INDEX
            + "; restore() = " + STATE + "; queueLength(1) = 8; clock() = 9");
    }

    private static void severalExceptions(Edges edges) {
        String first = "If several exceptions apply";
        edges.of(0, first).each(1, 40, "append(97) = #").run("append(31) = " + ARGUMENT + "; append(127) = " + ARGUMENT
            + "; append(32) = " + STATE);
        edges.of(0, first).each(0, 7, "rule a: = #").run("addRule() = " + ARGUMENT + "; text a = 1; addRule() = " + ARGUMENT
            + "; text : = 2; addRule() = " + STATE);
        edges.of(0, first).each(0, 7, "send(0, 1) = #").run("send(-1, 10000) = " + INDEX + "; send(8, -10000) = " + INDEX
            + "; send(0, 10000) = " + ARGUMENT + "; send(0, -10000) = " + ARGUMENT + "; send(0, 9999) = " + STATE);
        edges.of(0, first).run("matchOf(0, 0) = " + INDEX + "; matchOf(0, 8) = " + INDEX + "; rule a: = 0; matchOf(1, 8) = "
            + INDEX + "; matchOf(-1, 1) = " + INDEX + "; matchOf(0, 8) = " + ARGUMENT);
        edges.of(0, first).run("rule a: = 0; fireRule(1) = " + INDEX + "; fireRule(-1) = " + INDEX + "; fireRule(0) = " + STATE);
        edges.of(0, first).run("replyOf(0) = " + INDEX + "; send(0, 1) = 0; replyOf(1) = " + INDEX + "; replyOf(0) = " + STATE);
    }

    /** The calls are taken from the document itself. */
    private static void examples(Edges edges) {
        edges.none(0, "Examples: Each of them begins with a new object");
        String[] titles = {"Two messages meet, and a reply: ", "A result that is too great: ",
            "A reply that no channel can have: ", "Tickets, and a saved state: "};
        for (String title : titles) {
            String sentence = edges.sentence(0, title);
            edges.of(0, title).run(sentence.substring(title.length(), sentence.length() - 1));
        }
        Script none = edges.of(0, "- `NONE = -1`").run("send(4, 0) = -1; nextRule() = -1; fire() = -1; rule a: = 0;"
            + "matchOf(0, 0) = -1");
        none.due("the constant", JoinRuntime.NONE, -1);
    }
}
