/** Promises 10 to 13: sending messages and looking at the queues. */
final class MessagePromiseEdges {
    private static final String INDEX = "throws IndexOutOfBoundsException";
    private static final String ARGUMENT = "throws IllegalArgumentException";
    private static final String STATE = "throws IllegalStateException";
    private static final String LEAST_INT = "-2147483648";
    private static final String GREATEST_INT = "2147483647";

    private MessagePromiseEdges() {
    }

    static void test(Edges edges) {
        send(edges);
        sendErrors(edges);
        queueLength(edges);
        messageAt(edges);
        waitingChannels(edges);
    }

    private static void send(Edges edges) {
        edges.none(10, "Sends a message");
        edges.of(10, "No rule is fired by this call").run("rule e: = 0; rule a:!a=1 = 1; send(4, 1) = -1; send(0, 1) = 0;"
            + "firings(0) = 0; firings(1) = 0; queueLength(4) = 1; ticketState(0) = 0; clock() = 2; enabledRules() = 3");
        edges.of(10, "- `channel`: the channel, 0 to 7").run("send(0, 1) = 0; queueLength(0) = 1; send(7, 1) = -1;"
            + "queueLength(7) = 1; waitingChannels() = 129");
        edges.of(10, "- `value`: the value, -9999 to 9999").run("send(0, 9999) = 0; send(0, -9999) = 1; send(7, 9999) = -1;"
            + "send(7, -9999) = -1; send(0, 0) = 2; messageAt(0, 0) = 9999; messageAt(0, 1) = -9999; messageAt(7, 0) = 9999;"
            + "messageAt(7, 1) = -9999");
        edges.of(10, "Returns its ticket; NONE for an asynchronous channel").run("send(3, 0) = 0; send(4, 0) = -1; send(7, 0) = -1;"
            + "send(0, 0) = 1; send(5, 0) = -1; send(1, 0) = 2; send(6, 0) = -1; send(2, 0) = 3; send(3, 0) = 4");
        // The numbers go on where those that are known end.
        edges.of(10, "Returns its ticket; NONE for an asynchronous channel").run("rule a: = 0")
            .each(0, 59, "send(0, 0) = #; fire() = 0").run("send(3, 0) = 60; send(4, 0) = -1");
    }

    private static void sendErrors(Edges edges) {
        edges.of(10, "Throws `IndexOutOfBoundsException` if the channel does not exist").run("send(-1, 0) = " + INDEX
            + "; send(8, 0) = " + INDEX + "; send(" + LEAST_INT + ", 0) = " + INDEX + "; send(" + GREATEST_INT + ", 0) = "
            + INDEX + "; send(97, 0) = " + INDEX + "; clock() = 0; waitingChannels() = 0");
        edges.of(10, "Throws `IllegalArgumentException` if value is out of range").run("send(0, 10000) = " + ARGUMENT
            + "; send(0, -10000) = " + ARGUMENT + "; send(7, 10000) = " + ARGUMENT + "; send(7, -10000) = " + ARGUMENT
            + "; send(4, " + LEAST_INT + ") = " + ARGUMENT + "; send(4, " + GREATEST_INT + ") = " + ARGUMENT
            + "; clock() = 0; waitingChannels() = 0; send(0, 0) = 0");
        for (int c = 0; c < 8; c++) {
            edges.of(10, "Throws `IllegalStateException` if the queue of the channel has 8 messages")
                .each(0, 7, "send(" + c + ", #) = " + (c < 4 ? "#" : "-1"))
                .run("send(" + c + ", 0) = " + STATE + "; clock() = 8; queueLength(" + c + ") = 8; send(" + (c + 4) % 8
                + ", 0) = " + (c < 4 ? "-1" : "0") + "; clock() = 9; messageAt(" + c + ", 7) = 7");
        }
        // Full by outputs, and with room again behind a firing.
        edges.of(10, "Throws `IllegalStateException` if the queue of the channel has 8 messages").run("rule e:a=1,a=2,a=3,a=4 = 0;"
            + "rule a: = 1; send(4, 0) = -1; send(4, 0) = -1; run(2) = 2; queueLength(0) = 8; send(0, 0) = " + STATE
            + "; fire() = 1; send(0, 0) = 0; send(0, 0) = " + STATE);
    }

    private static void queueLength(Edges edges) {
        edges.of(11, "- `channel`: the channel, 0 to 7").run("queueLength(0) = 0; queueLength(7) = 0; send(7, 1) = -1;"
            + "queueLength(7) = 1; queueLength(0) = 0");
        edges.none(11, "Returns the number of messages in the queue of a channel");
        edges.of(11, "Returns the number of messages.").run("rule h: = 0").each(0, 7, "queueLength(7) = #; send(7, 0) = -1")
            .run("queueLength(7) = 8; send(7, 0) = " + STATE + "; queueLength(7) = 8; run(7) = 7; queueLength(7) = 1;"
            + "fire() = 0; queueLength(7) = 0");
        edges.of(11, "Throws `IndexOutOfBoundsException` if the channel does not exist").run("queueLength(-1) = " + INDEX
            + "; queueLength(8) = " + INDEX + "; queueLength(" + LEAST_INT + ") = " + INDEX + "; queueLength(" + GREATEST_INT
            + ") = " + INDEX);
    }

    private static void messageAt(Edges edges) {
        edges.none(12, "Returns the value of a message", "- `index`");
        edges.of(12, "- `channel`: the channel, 0 to 7").run("send(0, 5) = 0; send(7, 6) = -1; messageAt(0, 0) = 5;"
            + "messageAt(7, 0) = 6");
        edges.of(12, "Returns the value.").each(0, 7, "send(3, #) = #").each(0, 7, "messageAt(3, #) = #")
            .run("send(4, 9999) = -1; send(4, -9999) = -1; messageAt(4, 0) = 9999; messageAt(4, 1) = -9999");
        edges.of(12, "Throws `IndexOutOfBoundsException` if the channel does not exist, or its queue has no such message")
            .run("messageAt(0, 0) = " + INDEX + "; messageAt(-1, 0) = " + INDEX + "; messageAt(8, 0) = " + INDEX
            + "; send(0, 1) = 0; messageAt(0, 0) = 1; messageAt(0, 1) = " + INDEX + "; messageAt(0, -1) = " + INDEX
            + "; messageAt(0, " + LEAST_INT + ") = " + INDEX + "; messageAt(0, " + GREATEST_INT + ") = " + INDEX
            + "; messageAt(" + LEAST_INT + ", 0) = " + INDEX + "; messageAt(" + GREATEST_INT + ", 0) = " + INDEX
            + "; messageAt(1, 0) = " + INDEX + "; rule a: = 0; fire() = 0; messageAt(0, 0) = " + INDEX)
            .each(1, 8, "send(0, 1) = #").run("messageAt(0, 7) = 1; messageAt(0, 8) = " + INDEX + "; fire() = 0;"
            + "messageAt(0, 7) = " + INDEX + "; messageAt(0, 6) = 1");
    }

    private static void waitingChannels(Edges edges) {
        edges.none(13, "Returns the channels with messages");
        String mask = "Returns a bit mask in which bit c is set if the queue of channel c is not empty";
        edges.of(13, mask).run("waitingChannels() = 0");
        for (int c = 0; c < 8; c++) {
            edges.of(13, mask).run("send(" + c + ", 0) = " + (c < 4 ? 0 : -1) + "; waitingChannels() = " + (1 << c) + "; send("
                + c + ", 0) = " + (c < 4 ? 1 : -1) + "; waitingChannels() = " + (1 << c) + "; rule " + (char) ('a' + c)
                + ": = 0; fire() = 0; waitingChannels() = " + (1 << c) + "; fire() = 0; waitingChannels() = 0");
        }
        edges.of(13, mask).each(0, 3, "send(#, 0) = #").each(4, 7, "send(#, 0) = -1").run("waitingChannels() = 255");
    }
}
