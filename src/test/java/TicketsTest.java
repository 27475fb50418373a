/** Promises 22 and 23: the states of the tickets and the replies. */
public final class TicketsTest {
    public static void main(String[] args) {
        states();
        severalReplies();
        unknown();
        longWait();
        Script.end();
    }

    private static void states() {
        new Script("22, 23 states").run("ticketState(0) = throws IndexOutOfBoundsException;"
            + "replyOf(0) = throws IndexOutOfBoundsException; rule a?a=1:!a=9 = 0; rule a?a=2: = 1; rule b:!b=b*2 = 2;"
            + "send(0, 1) = 0; send(0, 2) = 1; send(0, 3) = 2; send(1, 4) = 3; send(4, 4) = -1;"
            + "ticketState(-1) = throws IndexOutOfBoundsException; ticketState(4) = throws IndexOutOfBoundsException;"
            + "replyOf(-1) = throws IndexOutOfBoundsException; replyOf(4) = throws IndexOutOfBoundsException;"
            + "ticketState(2147483647) = throws IndexOutOfBoundsException;"
            + "ticketState(-2147483648) = throws IndexOutOfBoundsException; ticketState(0) = 0;"
            + "replyOf(0) = throws IllegalStateException; run(9) = 3; ticketState(0) = 1; ticketState(1) = 2;"
            + "ticketState(2) = 0; ticketState(3) = 1; replyOf(0) = 9; replyOf(1) = throws IllegalStateException;"
            + "replyOf(2) = throws IllegalStateException; replyOf(3) = 8; replyOf(4) = throws IndexOutOfBoundsException");
        new Script("22 an output to the channel is no reply").run("rule a:b=a = 0; send(0, 1) = 0; fire() = 0;"
            + "ticketState(0) = 2; replyOf(0) = throws IllegalStateException");
        new Script("22 the ticket of the message chosen").run("rule a?a=5:!a=a = 0; send(0, 1) = 0; send(0, 5) = 1;"
            + "send(0, 6) = 2; fire() = 0; ticketState(0) = 0; ticketState(1) = 1; ticketState(2) = 0; rule a:!a=a = 1;"
            + "fire() = 1; ticketState(0) = 1; replyOf(0) = 1; fire() = 1; replyOf(2) = 6");
    }

    private static void severalReplies() {
        new Script("23 several replies").run("rule abcd:!c=a,!a=b,e=1,!d=d-1 = 0; send(0, 10) = 0; send(1, 20) = 1;"
            + "send(2, 30) = 2; send(3, 40) = 3; fire() = 0; replyOf(0) = 20; ticketState(1) = 2; replyOf(2) = 10;"
            + "replyOf(3) = 39; messageAt(4, 0) = 1");
        new Script("23 a reply without a caller").run("rule ab:!a=1,!b=2 = 0; rule e:a=0 = 1; send(4, 0) = -1; fire() = 1;"
            + "send(1, 0) = 0; fire() = 0; replyOf(0) = 2; ticketState(1) = throws IndexOutOfBoundsException");
    }

    private static void unknown() {
        Script s = new Script("22, 23 the 24 latest tickets").run("rule a:!a=a = 0");
        for (int t = 0; t < 24; t++) {
            s.run("send(0, " + (100 + t) + ") = " + t + "; fire() = 0");
        }
        s.run("ticketState(0) = 1; replyOf(0) = 100; replyOf(23) = 123;"
            + "ticketState(24) = throws IndexOutOfBoundsException; send(0, 7) = 24;"
            + "ticketState(0) = throws IndexOutOfBoundsException; replyOf(0) = throws IndexOutOfBoundsException;"
            + "replyOf(1) = 101; ticketState(24) = 0; replyOf(24) = throws IllegalStateException; fire() = 0;"
            + "replyOf(24) = 7; send(4, 0) = -1; replyOf(1) = 101; send(1, 0) = 25;"
            + "replyOf(1) = throws IndexOutOfBoundsException; replyOf(2) = 102; ticketState(25) = 0");
    }

    /** A message that waits while its ticket is forgotten must not settle a younger ticket. */
    private static void longWait() {
        Script s = new Script("22 a forgotten ticket").run("rule a:!a=5 = 0; rule b: = 1; send(0, 0) = 0; send(1, 0) = 1");
        for (int t = 2; t < 26; t++) {
            s.run("send(" + (t < 10 ? 2 : t < 18 ? 3 : t < 25 ? 0 : 1) + ", 0) = " + t);
        }
        s.run("ticketState(1) = throws IndexOutOfBoundsException; ticketState(2) = 0; ticketState(24) = 0;"
            + "ticketState(25) = 0; fireRule(0) = 1; ticketState(24) = 0; fireRule(1) = 1; ticketState(25) = 0;"
            + "ticketState(0) = throws IndexOutOfBoundsException; run(100) = 8; ticketState(24) = 1; replyOf(18) = 5;"
            + "ticketState(25) = 2");
    }
}
