/** Promises 29 to 31: save, restore and digest. */
public final class SavedStateTest {
    public static void main(String[] args) {
        saveAndRestore();
        everythingThatIsSaved();
        repliesAreSaved();
        whatIsNotSaved();
        digest();
        digestOfTickets();
        Script.end();
    }

    private static void saveAndRestore() {
        new Script("29, 30 save and restore").run("restore() = throws IllegalStateException; save() = 0; restore() = 0;"
            + "send(4, 1) = -1; send(0, 2) = 0; send(4, 3) = -1; restore() = 0; waitingChannels() = 0; send(4, 1) = -1;"
            + "send(4, 2) = -1; save() = 2; send(5, 1) = -1; restore() = 2; send(6, 1) = -1; restore() = 2;"
            + "waitingChannels() = 16; messageAt(4, 0) = 1; messageAt(4, 1) = 2; send(7, 1) = -1; save() = 3;"
            + "restore() = 3; queueLength(7) = 1");
        new Script("29, 30 rules discard a saved state").run("save() = 0; rule e: = 0; restore() = throws IllegalStateException;"
            + "save() = 0; removeRule(0) = 0; restore() = throws IllegalStateException; save() = 0; setPolicy(1) = 0;"
            + "text a = 1; restore() = 0");
    }

    private static void everythingThatIsSaved() {
        String rules = "rule a:!a=a = 0; rule e:e=e = 1; rule e:e=e = 2; setPolicy(1) = 0;";
        Script s = new Script("29, 30 all that is saved").run(rules + "send(0, 1) = 0; send(4, 5) = -1; send(0, 6) = 1;"
            + "run(2) = 2; nextRule() = 2; save() = 2");
        long saved = s.runtime().digest();
        s.run("run(20) = 20; send(0, 3) = 2; send(4, 4) = -1; send(1, 3) = 3; run(3) = 3; replyOf(1) = 6; restore() = 2");
        Script.report("30 the digest", String.valueOf(s.runtime().digest()), String.valueOf(saved));
        s.run("queueLength(0) = 1; messageAt(0, 0) = 6; queueLength(1) = 0; queueLength(4) = 1; messageAt(4, 0) = 5;"
            + "ticketState(0) = 1; replyOf(0) = 1; ticketState(1) = 0; ticketState(2) = throws IndexOutOfBoundsException;"
            + "clock() = 5; firings(0) = 1; firings(1) = 1; firings(2) = 0; nextRule() = 2; consumed(0) = 1;"
            + "consumed(4) = 1; meanWait(0) = 3.0; meanWait(4) = 3.0; shareOf(0) = 0.5; fire() = 2; fire() = 0;"
            + "replyOf(1) = 6; send(0, 9) = 2");
        s.run("restore() = 2; ticketState(1) = 0; ticketState(2) = throws IndexOutOfBoundsException; nextRule() = 2;"
            + "fire() = 2; meanWait(4) = 2.0");
        new Script("29 no rule has been fired yet").run("rule e:e=e = 0; rule e:e=e = 1; setPolicy(1) = 0; send(4, 0) = -1;"
            + "save() = 1; fire() = 0; nextRule() = 1; restore() = 1; nextRule() = 0");
    }

    /** The new tickets take the places of the old ones, which restore must give back. */
    private static void repliesAreSaved() {
        Script s = new Script("29, 30 replies").run("rule a:!a=a = 0; rule b: = 1; send(0, 11) = 0; send(1, 12) = 1;"
            + "send(2, 0) = 2; run(9) = 2; save() = 1");
        for (int t = 3; t < 30; t++) {
            s.run("send(0, " + (100 + t) + ") = " + t + "; fire() = 0");
        }
        s.run("replyOf(0) = throws IndexOutOfBoundsException; replyOf(24) = 124; restore() = 1; replyOf(0) = 11;"
            + "ticketState(1) = 2; ticketState(2) = 0; ticketState(3) = throws IndexOutOfBoundsException");
    }

    private static void whatIsNotSaved() {
        new Script("30 the policy and the buffer stay").run("text ab = 2; save() = 0; setPolicy(2) = 0; text c = 3;"
            + "restore() = 0; setPolicy(2) = 2; clearBuffer() = 3; restore() = 0; clearBuffer() = 0");
    }

    private static void digestIs(Script s, long... values) {
        Script.report("31 digest", String.valueOf(s.runtime().digest()), String.valueOf(Script.hash(values)));
        Script.report("31 digest again", String.valueOf(s.runtime().digest()), String.valueOf(Script.hash(values)));
    }

    private static void digest() {
        Script s = new Script("31 digest").run("clock() = 0");
        digestIs(s, 0, 0, 0, 0, 0, 0, 0, 0, 0, 0, 0, 0, 0, 0, 0, 0, 0, 0, 0, 0, 0, 0, 0, 0, 0, 0,
            0, 0, 0, 0, -1, 0, 0);
        s.run("rule af?a<f:!a=f-a,e=a = 0; rule h: = 1; setPolicy(1) = 0; send(0, 3) = 0; send(0, -4) = 1; send(5, 9) = -1;"
            + "send(7, 9999) = -1; fire() = 0; send(5, -9) = -1; save() = 4; text h? = 2");
        // The clock after these: 4 sends, a firing at 5, a send at 6.
        digestIs(s, 2, 33, 1, 128, 0,
            1, -4, 2, 1, 0, 0, 0, 1, 3, 5, -1, 1, -9, 6, -1, 0, 1, 9999, 4, -1,
            1, 4, 0, 0, 0, 0, 0, 0, 0, 0, 1, 2, 0, 0, 0, 0,
            2, 1, 6, 0,
            6, 1, 3, 2, 1, 1, 2, 'h', '?');
    }

    private static void digestOfTickets() {
        Script s = new Script("31 digest of the known tickets").run("rule a:!a=a = 0; rule b: = 1");
        for (int t = 0; t < 26; t++) {
            s.run("send(" + t % 2 + ", " + t + ") = " + t + "; fire() = " + t % 2);
        }
        s.run("send(2, 5) = 26");
        digestIs(s, 2, 1, 13, 2, 13,
            0, 0, 1, 5, 53, 26, 0, 0, 0, 0, 0,
            13, 13, 13, 13, 0, 0, 0, 0, 0, 0, 0, 0, 0, 0, 0, 0,
            27, 2, 1, 4, 2, 1, 6, 2, 1, 8, 2, 1, 10, 2, 1, 12, 2, 1, 14, 2, 1, 16, 2, 1, 18, 2, 1, 20, 2, 1, 22,
            2, 1, 24, 2, 0,
            53, 0, 0, 0, -1, 0, 0);
    }
}
