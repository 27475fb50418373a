/** Promises 10 to 13: sending messages and looking at the queues. */
public final class MessagesTest {
    public static void main(String[] args) {
        send();
        sendErrors();
        queues();
        waitingChannels();
        Script.end();
    }

    private static void send() {
        new Script("10 tickets of send").run("send(0, 5) = 0; send(4, 6) = -1; send(3, 7) = 1; send(7, 8) = -1;"
            + "send(1, -9999) = 2; send(2, 9999) = 3; send(5, 0) = -1; send(6, 0) = -1; send(0, 0) = 4; clock() = 9;"
            + "messageAt(1, 0) = -9999; messageAt(2, 0) = 9999; ticketState(4) = 0");
        new Script("10 send fires nothing").run("rule e:f=e = 0; send(4, 1) = -1; queueLength(4) = 1;"
            + "queueLength(5) = 0; firings(0) = 0; clock() = 1");
        new Script("10 the time stamp").run("rule e: = 0; send(4, 1) = -1; send(5, 1) = -1; fire() = 0;"
            + "meanWait(4) = 2.0");
    }

    private static void sendErrors() {
        Script s = new Script("10 errors of send").run("send(8, 0) = throws IndexOutOfBoundsException;"
            + "send(-1, 0) = throws IndexOutOfBoundsException; send(8, 10000) = throws IndexOutOfBoundsException;"
            + "send(-2147483648, -10000) = throws IndexOutOfBoundsException;"
            + "send(0, 10000) = throws IllegalArgumentException; send(0, -10000) = throws IllegalArgumentException;"
            + "send(7, 2147483647) = throws IllegalArgumentException;"
            + "send(7, -2147483648) = throws IllegalArgumentException; clock() = 0");
        for (int i = 0; i < 8; i++) {
            s.run("send(3, " + i + ") = " + i);
        }
        s.run("send(3, 0) = throws IllegalStateException; send(3, 10000) = throws IllegalArgumentException; clock() = 8;"
            + "queueLength(3) = 8; send(2, 0) = 8");
    }

    private static void queues() {
        new Script("11, 12 queues").run("queueLength(8) = throws IndexOutOfBoundsException;"
            + "queueLength(-1) = throws IndexOutOfBoundsException; messageAt(0, 0) = throws IndexOutOfBoundsException;"
            + "messageAt(8, 0) = throws IndexOutOfBoundsException; messageAt(-1, 0) = throws IndexOutOfBoundsException;"
            + "send(5, 11) = -1; send(5, 22) = -1; send(5, 33) = -1; send(7, 44) = -1; queueLength(5) = 3;"
            + "queueLength(7) = 1; queueLength(6) = 0; messageAt(5, 0) = 11; messageAt(5, 1) = 22; messageAt(5, 2) = 33;"
            + "messageAt(5, 3) = throws IndexOutOfBoundsException; messageAt(5, -1) = throws IndexOutOfBoundsException;"
            + "messageAt(5, 7) = throws IndexOutOfBoundsException; messageAt(5, 8) = throws IndexOutOfBoundsException;"
            + "messageAt(5, 2147483647) = throws IndexOutOfBoundsException; messageAt(7, 0) = 44");
        new Script("11, 12 messages move up").run("rule e?e=2: = 0; send(4, 1) = -1; send(4, 2) = -1; send(4, 3) = -1;"
            + "send(4, 4) = -1; fire() = 0; queueLength(4) = 3; messageAt(4, 0) = 1; messageAt(4, 1) = 3;"
            + "messageAt(4, 2) = 4; messageAt(4, 3) = throws IndexOutOfBoundsException; send(4, 5) = -1;"
            + "messageAt(4, 3) = 5");
    }

    private static void waitingChannels() {
        Script s = new Script("13 waitingChannels").run("waitingChannels() = 0");
        int mask = 0;
        for (int c = 7; c >= 0; c--) {
            mask |= 1 << c;
            s.run("send(" + c + ", 0) = " + (c < 4 ? 3 - c : -1) + "; waitingChannels() = " + mask);
        }
        s.run("rule c: = 0; send(2, 0) = 4; fire() = 0; waitingChannels() = 255; fire() = 0; waitingChannels() = 251");
    }
}
