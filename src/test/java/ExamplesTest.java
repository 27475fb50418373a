/** The four examples of the document, word for word. */
public final class ExamplesTest {
    public static void main(String[] args) {
        new Script("example 1").run("append(97) = 1; append(101) = 2; append(58) = 3; append(33) = 4;"
            + "append(97) = 5; append(61) = 6; append(97) = 7; append(45) = 8; append(101) = 9;"
            + "addRule() = 0; send(0, 7) = 0; fire() = -1; send(4, 2) = -1; enabledRules() = 1;"
            + "fire() = 0; replyOf(0) = 5");
        new Script("example 2").run("append(102) = 1; append(58) = 2; append(103) = 3; append(61) = 4;"
            + "append(102) = 5; append(42) = 6; append(57) = 7; addRule() = 0; send(5, 2000) = -1;"
            + "run(5) = 1; messageAt(6, 0) = 9999; shareOf(0) = 1.0; isStuck() = true");
        new Script("example 3").run("append(101) = 1; append(58) = 2; append(33) = 3; firstError() = 3;"
            + "addRule() = throws IllegalArgumentException; append(101) = 4; firstError() = 3");
        new Script("example 4").run("send(1, 3) = 0; ticketState(0) = 0;"
            + "replyOf(0) = throws IllegalStateException; fire() = -1; isStuck() = true; save() = 1;"
            + "send(6, 1) = -1; restore() = 1; waitingChannels() = 2");
        Script.end();
    }
}
