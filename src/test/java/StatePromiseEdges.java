import java.math.BigInteger;
import java.util.ArrayList;
import java.util.Collections;
import java.util.List;

/** Promises 22 to 31: tickets, statistics, the saved state and the digest. */
final class StatePromiseEdges {
    private static final String INDEX = "throws IndexOutOfBoundsException";
    private static final String STATE = "throws IllegalStateException";
    private static final String LEAST_INT = "-2147483648";
    private static final String GREATEST_INT = "2147483647";

    private StatePromiseEdges() {
    }

    static void test(Edges edges) {
        ticketState(edges);
        replyOf(edges);
        firings(edges);
        consumed(edges);
        meanWait(edges);
        shareOf(edges);
        clock(edges);
        save(edges);
        restore(edges);
        digest(edges);
        digestOfAFullState(edges);
        digestOfTickets(edges);
    }

    private static void ticketState(Edges edges) {
        edges.none(22, "Returns the state of a ticket", "- `ticket`");
        edges.of(22, "Returns 0 if it is waiting, 1 if it is answered, 2 if it is abandoned").run("rule a:!a=0 = 0; rule b:a=1 = 1;"
            + "send(0, 0) = 0; send(1, 0) = 1; send(1, 0) = 2; ticketState(0) = 0; ticketState(1) = 0; fire() = 0;"
            + "ticketState(0) = 1; ticketState(1) = 0; fire() = 1; ticketState(1) = 2; ticketState(2) = 0; run(100) = 3;"
            + "ticketState(0) = 1; ticketState(1) = 2; ticketState(2) = 2");
        String unknown = "Throws `IndexOutOfBoundsException` if the ticket has not been given, or is not known any more";
        edges.of(22, unknown).run("ticketState(0) = " + INDEX + "; ticketState(-1) = " + INDEX + "; send(4, 0) = -1;"
            + "ticketState(-1) = " + INDEX + "; ticketState(0) = " + INDEX + "; send(0, 0) = 0; ticketState(0) = 0;"
            + "ticketState(1) = " + INDEX + "; ticketState(24) = " + INDEX + "; ticketState(" + LEAST_INT + ") = " + INDEX
            + "; ticketState(" + GREATEST_INT + ") = " + INDEX);
        edges.of(22, unknown).run("rule a: = 0").each(0, 23, "send(0, 0) = #; fire() = 0; ticketState(0) = 2")
            .run("send(0, 0) = 24; ticketState(0) = " + INDEX + "; ticketState(1) = 2; ticketState(23) = 2; ticketState(24) = 0;"
            + "ticketState(25) = " + INDEX + "; send(0, 0) = 25; ticketState(1) = " + INDEX + "; ticketState(2) = 2");
        // A ticket is forgotten even if its message still waits, but not because of an asynchronous message.
        edges.of(22, unknown).each(0, 7, "send(0, 0) = #").each(8, 15, "send(1, 0) = #").each(16, 23, "send(2, 0) = #")
            .run("send(7, 0) = -1; ticketState(0) = 0; send(3, 0) = 24; ticketState(0) = " + INDEX + "; queueLength(0) = 8;"
            + "ticketState(1) = 0");
    }

    private static void replyOf(Edges edges) {
        edges.none(23, "Returns the reply to a ticket", "- `ticket`");
        edges.of(23, "Returns the value of the reply").run("rule a:!a=a*a = 0; rule b:!b=b = 1; send(0, 0) = 0; send(0, 9999) = 1;"
            + "send(1, -9999) = 2; send(1, -1) = 3; run(9) = 4; replyOf(0) = 0; replyOf(1) = 9999; replyOf(2) = -9999;"
            + "replyOf(3) = -1; replyOf(0) = 0");
        String unknown = "Throws `IndexOutOfBoundsException` if the ticket has not been given, or is not known any more";
        edges.of(23, unknown).run("replyOf(0) = " + INDEX + "; replyOf(-1) = " + INDEX + "; rule a:!a=a = 0; send(0, 5) = 0;"
            + "fire() = 0; replyOf(0) = 5; replyOf(1) = " + INDEX + "; replyOf(-1) = " + INDEX + "; replyOf(24) = " + INDEX
            + "; replyOf(" + LEAST_INT + ") = " + INDEX + "; replyOf(" + GREATEST_INT + ") = " + INDEX);
        edges.of(23, unknown).run("rule a:!a=a = 0").each(0, 23, "send(0, #) = #; fire() = 0; replyOf(0) = 0")
            .run("send(0, 24) = 24; replyOf(0) = " + INDEX + "; replyOf(1) = 1; replyOf(23) = 23; fire() = 0; replyOf(24) = 24;"
            + "replyOf(25) = " + INDEX);
        edges.of(23, "Throws `IllegalStateException` if the ticket is not answered").run("rule a:a=1 = 0; rule b:!b=1 = 1; send(0, 0) = 0;"
            + "send(1, 0) = 1; replyOf(0) = " + STATE + "; replyOf(1) = " + STATE + "; fire() = 0; replyOf(0) = " + STATE
            + "; replyOf(1) = " + STATE + "; fireRule(1) = 1; replyOf(1) = 1; replyOf(0) = " + STATE);
        // A new ticket in the place of an answered one is not answered.
        edges.of(23, "Throws `IllegalStateException` if the ticket is not answered").run("rule a:!a=a = 0")
            .each(0, 23, "send(0, #) = #; fire() = 0").each(24, 31, "send(0, #) = #; replyOf(#) = " + STATE);
    }

    private static void firings(Edges edges) {
        edges.none(24, "- `rule`", "Returns the number of firings");
        edges.of(24, "Returns how often a rule has been fired since it was added").run("rule e:e=e = 0; rule f: = 1; firings(0) = 0;"
            + "send(4, 0) = -1; firings(0) = 0; fire() = 0; firings(0) = 1; fireRule(1) = " + STATE + "; firings(1) = 0; run(100) = 100;"
            + "firings(0) = 101; removeRule(0) = 1; firings(0) = 0; rule e:e=e = 1; firings(1) = 0; fireRule(1) = 1; firings(1) = 1");
        edges.of(24, "Returns how often a rule has been fired since it was added").run("rule e:e=e = 0; rule e:e=e = 1; send(4, 0) = -1;"
            + "fireRule(1) = 1; fireRule(1) = 2; removeRule(1) = 1; rule e:e=e = 1; firings(1) = 0; firings(0) = 0; fireRule(1) = 1");
        edges.of(24, "Throws `IndexOutOfBoundsException` if the rule does not exist").run("firings(0) = " + INDEX + "; rule e: = 0;"
            + "firings(0) = 0; firings(1) = " + INDEX + "; firings(-1) = " + INDEX + "; firings(" + LEAST_INT + ") = " + INDEX
            + "; firings(" + GREATEST_INT + ") = " + INDEX + "; removeRule(0) = 0; firings(0) = " + INDEX)
            .each(0, 7, "rule e: = #").run("firings(7) = 0; firings(8) = " + INDEX);
    }

    private static void consumed(Edges edges) {
        edges.none(25, "Returns how many messages of a channel have been consumed");
        edges.of(25, "- `channel`: the channel, 0 to 7").run("rule ah: = 0; send(0, 0) = 0; send(7, 0) = -1; fire() = 0;"
            + "consumed(0) = 1; consumed(7) = 1; consumed(1) = 0; consumed(6) = 0");
        edges.of(25, "Returns the number of messages").run("rule e: = 0; consumed(4) = 0; send(4, 0) = -1; consumed(4) = 0; fire() = 0;"
            + "consumed(4) = 1; fire() = -1; consumed(4) = 1").each(1, 8, "send(4, 0) = -1").run("run(100) = 8; consumed(4) = 9;"
            + "removeRule(0) = 0; consumed(4) = 9; rule e:e=e = 0; send(4, 0) = -1; run(100) = 100; consumed(4) = 109");
        edges.of(25, "Throws `IndexOutOfBoundsException` if the channel does not exist").run("consumed(-1) = " + INDEX
            + "; consumed(8) = " + INDEX + "; consumed(" + LEAST_INT + ") = " + INDEX + "; consumed(" + GREATEST_INT + ") = " + INDEX);
    }

    private static void meanWait(Edges edges) {
        edges.none(26, "Returns the mean waiting time of the consumed messages");
        // The shortest wait is 1: the firing itself increases the clock.
        edges.of(26, "The waiting time of a message").run("rule e:f=1 = 0; rule f: = 1; send(4, 0) = -1; fire() = 0; meanWait(4) = 1.0;"
            + "fire() = 1; meanWait(5) = 1.0; send(4, 0) = -1; send(6, 0) = -1; send(6, 0) = -1; fire() = 0; meanWait(4) = 2.0");
        edges.of(26, "The waiting time of a message").run("rule e:e=e = 0; rule f: = 1; send(5, 0) = -1; send(4, 0) = -1; run(100) = 100;"
            + "fireRule(1) = 1; meanWait(5) = 102.0; meanWait(4) = 1.0");
        edges.of(26, "- `channel`: the channel, 0 to 7").run("rule ah: = 0; send(0, 0) = 0; send(7, 0) = -1; fire() = 0;"
            + "meanWait(0) = 2.0; meanWait(7) = 1.0; meanWait(1) = 0.0; meanWait(6) = 0.0");
        edges.of(26, "Returns the sum of the waiting times divided by the number").each(0, 7, "meanWait(#) = 0.0").run("rule e: = 0;"
            + "send(4, 0) = -1; meanWait(4) = 0.0; send(4, 0) = -1; fire() = 0; meanWait(4) = 2.0; fire() = 0; meanWait(4) = 2.0;"
            + "send(4, 0) = -1; fire() = 0; meanWait(4) = 1.6666666666666667; meanWait(5) = 0.0");
        edges.of(26, "Throws `IndexOutOfBoundsException` if the channel does not exist").run("meanWait(-1) = " + INDEX
            + "; meanWait(8) = " + INDEX + "; meanWait(" + LEAST_INT + ") = " + INDEX + "; meanWait(" + GREATEST_INT + ") = " + INDEX);
    }

    private static void shareOf(Edges edges) {
        edges.none(27, "Returns the share of a rule in all firings", "- `rule`");
        edges.of(27, "Returns the firings of the rule, as a float").run("rule e:e=e = 0; rule e:e=e = 1; rule e:e=e = 2;"
            + "shareOf(0) = 0.0; shareOf(2) = 0.0; send(4, 0) = -1; shareOf(0) = 0.0; fireRule(0) = 1; shareOf(0) = 1.0;"
            + "shareOf(1) = 0.0; fireRule(1) = 1; shareOf(0) = 0.5; fireRule(1) = 2; shareOf(0) = 0.33333334;"
            + "shareOf(1) = 0.6666667; removeRule(1) = 2; shareOf(0) = 1.0; shareOf(1) = 0.0; removeRule(0) = 1; shareOf(0) = 0.0");
        // A rule that is gone does not count, be it the last one or all of them.
        edges.of(27, "Returns the firings of the rule, as a float").run("rule e:e=e = 0; rule e:e=e = 1; send(4, 0) = -1; fireRule(0) = 1;"
            + "fireRule(1) = 1; shareOf(1) = 0.5; removeRule(1) = 1; shareOf(0) = 1.0; removeRule(0) = 0; rule e:e=e = 0;"
            + "shareOf(0) = 0.0");
        edges.of(27, "Throws `IndexOutOfBoundsException` if the rule does not exist").run("shareOf(0) = " + INDEX + "; rule e: = 0;"
            + "shareOf(0) = 0.0; shareOf(1) = " + INDEX + "; shareOf(-1) = " + INDEX + "; shareOf(" + LEAST_INT + ") = " + INDEX
            + "; shareOf(" + GREATEST_INT + ") = " + INDEX + "; removeRule(0) = 0; shareOf(0) = " + INDEX)
            .each(0, 7, "rule e: = #").run("shareOf(7) = 0.0; shareOf(8) = " + INDEX);
    }

    private static void clock(Edges edges) {
        edges.none(28, "Returns the clock.");
        edges.of(28, "Returns the clock reading").run("clock() = 0; clock() = 0; rule e:e=e = 0; send(4, 0) = -1; clock() = 1;"
            + "run(100) = 100; clock() = 101; clock() = 101");
    }

    private static void save(Edges edges) {
        String saves = "Saves the queues, the tickets, the clock";
        Script s = edges.of(29, saves).run("rule a:!a=a = 0; rule e:e=e = 1; rule e:e=e = 2;"
            + "setPolicy(1) = 0; send(0, 5) = 0; send(4, 1) = -1; send(1, 0) = 1; run(2) = 2; save() = 2");
        String saved = s.ask("digest()");
        s.run("fire() = 2; send(0, 6) = 2; fire() = 0; send(5, 1) = -1; restore() = 2; clock() = 5; nextRule() = 2; firings(0) = 1;"
            + "firings(2) = 0; queueLength(5) = 0; replyOf(0) = 5; ticketState(1) = 0; ticketState(2) = " + INDEX
            + "; consumed(0) = 1; consumed(4) = 1; meanWait(0) = 3.0; meanWait(4) = 3.0; messageAt(4, 0) = 1; messageAt(1, 0) = 0");
        s.due("digest() behind restore", s.ask("digest()"), saved);
        // Each message keeps its own ticket, though other messages stood in its place since.
        edges.of(29, saves).run("rule a:!a=a = 0; send(0, 5) = 0; send(0, 6) = 1; send(0, 7) = 2; save() = 3; run(9) = 3;"
            + "send(0, 8) = 3; send(0, 9) = 4; restore() = 3; fire() = 0; replyOf(0) = 5; fire() = 0; replyOf(1) = 6;"
            + "ticketState(2) = 0; fire() = 0; replyOf(2) = 7; meanWait(0) = 3.0");
        // That no rule has been fired yet is saved too.
        edges.of(29, saves).run("rule e:e=e = 0; rule e:e=e = 1; setPolicy(1) = 0; send(4, 0) = -1;"
            + "save() = 1; fire() = 0; restore() = 1; nextRule() = 0");
        // The places of all 24 known tickets are used again behind the save.
        edges.of(29, saves).run("rule a:!a=a = 0").each(0, 23, "send(0, #) = #; fire() = 0")
            .run("save() = 0").each(24, 47, "send(0, #) = #; fire() = 0").run("replyOf(23) = " + INDEX + "; restore() = 0")
            .each(0, 23, "replyOf(#) = #").run("ticketState(24) = " + INDEX + "; send(0, 7) = 24; replyOf(0) = " + INDEX);

        edges.of(29, "There is one saved state; an older one is overwritten").run("save() = 0; send(4, 1) = -1; save() = 1; send(4, 2) = -1;"
            + "restore() = 1; clock() = 1; restore() = 1; rule e: = 0; fire() = 0; save() = 0; send(4, 3) = -1; restore() = 0;"
            + "clock() = 2; waitingChannels() = 0");
        full(edges.of(29, "Returns the number of messages in all queues").run("save() = 0; send(0, 0) = 0; save() = 1; restore() = 1;"
            + "rule a: = 0; fire() = 0; save() = 0"), 1).run("save() = 64");
    }

    /** Fills all queues; the tickets begin with the given number, and the values tell the places. */
    private static Script full(Script s, int firstTicket) {
        for (int c = 0; c < 8; c++) {
            for (int i = 0; i < 8; i++) {
                s.run("send(" + c + ", " + (10 * c + i) + ") = " + (c < 4 ? firstTicket + 8 * c + i : -1));
            }
        }
        return s;
    }

    private static void restore(Edges edges) {
        String everything = "Restores everything that save has saved";
        // From full queues to empty ones and back.
        Script s = edges.of(30, everything).run("rule abcd: = 0; rule efgh: = 1");
        full(s, 0).run("save() = 64; run(100) = 16; waitingChannels() = 0; restore() = 64; clock() = 64; firings(0) = 0");
        for (int c = 0; c < 8; c++) {
            s.run("queueLength(" + c + ") = 8; messageAt(" + c + ", 0) = " + 10 * c + "; messageAt(" + c + ", 7) = " + (10 * c + 7)
                + "; consumed(" + c + ") = 0; meanWait(" + c + ") = 0.0");
        }
        s.run("ticketState(31) = 0; ticketState(8) = 0; ticketState(7) = " + INDEX + "; run(100) = 16");
        // A ticket that was answered, one that was abandoned, the rule that was fired last and the waiting times.
        Script mixed = edges.of(30, everything).run("rule a:!a=a = 0; rule b: = 1; rule e:e=e = 2; rule e:e=e = 3; setPolicy(1) = 0;"
            + "send(0, 5) = 0; send(1, 6) = 1; send(0, 7) = 2; send(4, 8) = -1; run(3) = 3; nextRule() = 3; save() = 2");
        String saved = mixed.ask("digest()");
        mixed.run("fire() = 3; fire() = 0; fire() = 2");
        for (int t = 3; t < 27; t++) {
            mixed.run("send(1, 9) = " + t + "; fireRule(1) = " + (t - 1));
        }
        mixed.run("send(0, 1) = 27; restore() = 2");
        mixed.due("digest() behind restore", mixed.ask("digest()"), saved);
        mixed.run("clock() = 7; nextRule() = 3; replyOf(0) = 5; ticketState(1) = 2; ticketState(2) = 0; ticketState(3) = " + INDEX
            + "; firings(1) = 1; firings(3) = 0; meanWait(0) = 4.0; meanWait(1) = 4.0; meanWait(4) = 3.0; fire() = 3; fire() = 0;"
            + "replyOf(2) = 7; meanWait(0) = 5.0");
        // From empty queues to full ones and back.
        full(edges.of(30, everything).run("save() = 0"), 0).run("restore() = 0; waitingChannels() = 0; clock() = 0; ticketState(0) = "
            + INDEX + "; send(3, 0) = 0");
        // What save does not save stays as it is: the policy and the buffer.
        edges.of(30, everything).run("text ab = 2; save() = 0; setPolicy(2) = 0; text c = 3; restore() = 0; clearBuffer() = 3;"
            + "setPolicy(1) = 2; restore() = 0; clearBuffer() = 0; setPolicy(0) = 1");

        edges.of(30, "The saved state is kept").run("send(4, 1) = -1; save() = 1; send(4, 2) = -1; restore() = 1; send(4, 3) = -1;"
            + "send(4, 4) = -1; restore() = 1; restore() = 1; messageAt(4, 0) = 1; queueLength(4) = 1; clock() = 1; setPolicy(1) = 0;"
            + "text z = 1; restore() = 1");
        // What happens behind a restore does not reach the saved state.
        edges.of(30, "The saved state is kept").run("rule a:!a=a = 0; send(0, 1) = 0; save() = 1; restore() = 1; fire() = 0;"
            + "ticketState(0) = 1; restore() = 1; ticketState(0) = 0; consumed(0) = 0; firings(0) = 0; fire() = 0; replyOf(0) = 1");

        full(edges.of(30, "Returns the number of messages in all queues").run("save() = 0; restore() = 0"), 0)
            .run("restore() = 0");
        full(edges.of(30, "Returns the number of messages in all queues"), 0).run("save() = 64; restore() = 64");

        edges.of(30, "Throws `IllegalStateException` if there is no saved state").run("restore() = " + STATE + "; send(4, 0) = -1;"
            + "restore() = " + STATE + "; queueLength(4) = 1; save() = 1; restore() = 1; rule e: = 0; restore() = " + STATE
            + "; save() = 1; removeRule(0) = 0; restore() = " + STATE + "; queueLength(4) = 1");
    }

    /** The values of a digest, in the order of the document. */
    private static final class Values {
        private final List<Long> list = new ArrayList<>();

        Values add(long... values) {
            for (long x : values) {
                list.add(x);
            }
            return this;
        }

        Values repeat(int times, long value) {
            list.addAll(Collections.nCopies(times, value));
            return this;
        }

        /** Computed without a limit, and cut to 64 bits at the end. */
        long hash() {
            BigInteger hash = BigInteger.valueOf(1847);
            for (long x : list) {
                hash = hash.multiply(BigInteger.valueOf(31)).add(BigInteger.valueOf(x));
            }
            return hash.longValue();
        }
    }

    private static void digestIs(String state, Script s, Values values) {
        for (int i = 0; i < 2; i++) {
            s.due("digest() of " + state, s.ask("digest()"), values.hash());
        }
    }

    private static void digest(Edges edges) {
        edges.none(31, "Computes a hash of the whole state", "Returns the hash");
        // Of a new object: nothing but zeros, and NONE for nextRule.
        Script s = edges.of(31, "The hash starts as 1847").run("clock() = 0");
        digestIs("a new object", s, new Values().repeat(30, 0).add(-1, 0, 0));
        // Each of these changes one value or a few.
        String order = "The values are, in this order: the number of rules";
        s = edges.of(31, order).run("save() = 0");
        digestIs("a saved state", s, new Values().repeat(30, 0).add(-1, 1, 0));
        s = edges.of(31, order).run("setPolicy(2) = 0");
        digestIs("a policy", s, new Values().repeat(27, 0).add(2, 0, 0, -1, 0, 0));
        s = edges.of(31, order).run("append(32) = 1; append(126) = 2");
        digestIs("a buffer", s, new Values().repeat(30, 0).add(-1, 0, 2, 32, 126));
        s = edges.of(31, order).run("rule h: = 0");
        digestIs("a rule", s, new Values().add(1, 128, 0).repeat(29, 0).add(-1, 0, 0));
        s = edges.of(31, order).run("rule h: = 0; rule g?g=1: = 1; send(7, -9999) = -1; send(6, 0) = -1");
        digestIs("messages without tickets", s, new Values().add(2, 128, 0, 64, 0).repeat(6, 0).add(1, 0, 2, -1, 1, -9999, 1, -1)
            .repeat(17, 0).add(2, 0, 3, 1, 0, 0, 0));
        s.run("fire() = 0");
        digestIs("a firing", s, new Values().add(2, 128, 1, 64, 0).repeat(6, 0).add(1, 0, 2, -1, 0)
            .repeat(14, 0).add(1, 2, 0, 3, 0, 2, 0, -1, 0, 0));
    }

    private static void digestOfAFullState(Edges edges) {
        Script s = full(edges.of(31, "The values are, in this order: the number of rules").each(0, 7, "rule efgh: = #"), 0)
            .run("setPolicy(2) = 0; save() = 64").each(1, 40, "append(126) = #");
        Values values = new Values().add(8);
        for (int r = 0; r < 8; r++) {
            values.add(240, 0);
        }
        for (int c = 0; c < 8; c++) {
            values.add(8);
            for (int i = 0; i < 8; i++) {
                values.add(10 * c + i, 8 * c + i + 1, c < 4 ? 8 * c + i : -1);
            }
        }
        values.repeat(16, 0).add(32).repeat(24, 0).add(64, 2, 255, 255, 0, 1, 40).repeat(40, 126);
        digestIs("a full state", s, values);
    }

    /** Even tickets are answered by their number minus 24, odd ones are abandoned. */
    private static void digestOfTickets(Edges edges) {
        Script s = edges.of(31, "The values are, in this order: the number of rules").run("rule a:!a=a = 0; rule b: = 1");
        for (int given = 1; given <= 50; given++) {
            int last = given - 1;
            s.run("send(" + last % 2 + ", " + (last - 24) + ") = " + last + "; fire() = " + last % 2);
            int answered = (given + 1) / 2;
            int abandoned = given / 2;
            // Each message waits for one tick, so the sum of the waiting times is the number of messages.
            Values values = new Values().add(2, 1, answered, 2, abandoned).repeat(8, 0)
                .add(answered, answered, abandoned, abandoned).repeat(12, 0).add(given);
            for (int t = Math.max(0, given - 24); t < given; t++) {
                if (t % 2 == 0) {
                    values.add(1, t - 24);
                } else {
                    values.add(2);
                }
            }
            digestIs(given + " tickets", s, values.add(2L * given, 0, 0, 0, -1, 0, 0));
        }
    }
}
