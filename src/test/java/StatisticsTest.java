/** Promises 24 to 28: firings, consumed messages, waiting times, shares and the clock. */
public final class StatisticsTest {
    public static void main(String[] args) {
        new Script("24 firings").run("firings(0) = throws IndexOutOfBoundsException; rule e: = 0; rule f: = 1;"
            + "firings(0) = 0; firings(1) = 0; firings(2) = throws IndexOutOfBoundsException;"
            + "firings(-1) = throws IndexOutOfBoundsException; send(5, 0) = -1; send(5, 0) = -1; send(4, 0) = -1;"
            + "run(9) = 3; firings(0) = 1; firings(1) = 2; removeRule(0) = 1; firings(0) = 2; rule e: = 1;"
            + "firings(1) = 0");
        new Script("25 consumed").run("consumed(8) = throws IndexOutOfBoundsException;"
            + "consumed(-1) = throws IndexOutOfBoundsException; rule aeh:e=1 = 0; send(0, 0) = 0; send(4, 0) = -1;"
            + "send(7, 0) = -1; send(7, 0) = -1; consumed(7) = 0; fire() = 0; consumed(0) = 1; consumed(4) = 1;"
            + "consumed(7) = 1; consumed(1) = 0; consumed(5) = 0; send(0, 0) = 1; fire() = 0; consumed(0) = 2;"
            + "consumed(4) = 2; consumed(7) = 2; removeRule(0) = 0; consumed(4) = 2");
        new Script("26 meanWait").run("meanWait(8) = throws IndexOutOfBoundsException;"
            + "meanWait(-1) = throws IndexOutOfBoundsException; meanWait(0) = 0.0; rule e?e=1: = 0; send(4, 2) = -1;"
            + "meanWait(4) = 0.0; send(4, 1) = -1; fire() = 0; meanWait(4) = 1.0; send(4, 1) = -1; send(7, 0) = -1;"
            + "fire() = 0; meanWait(4) = 1.5; send(4, 1) = -1; send(7, 0) = -1; fire() = 0;"
            + "meanWait(4) = 1.6666666666666667; meanWait(7) = 0.0; rule e: = 1; fire() = 1; clock() = 10;"
            + "meanWait(4) = 3.5");
        new Script("27 shareOf").run("shareOf(0) = throws IndexOutOfBoundsException; rule e: = 0; rule f: = 1; rule g: = 2;"
            + "shareOf(0) = 0.0; shareOf(2) = 0.0; shareOf(3) = throws IndexOutOfBoundsException;"
            + "shareOf(-1) = throws IndexOutOfBoundsException; send(5, 0) = -1; fire() = 1; shareOf(0) = 0.0;"
            + "shareOf(1) = 1.0; send(4, 0) = -1; send(5, 0) = -1; run(5) = 2; shareOf(0) = 0.33333334;"
            + "shareOf(1) = 0.6666667; shareOf(2) = 0.0; removeRule(0) = 2; shareOf(0) = 1.0; removeRule(0) = 1;"
            + "shareOf(0) = 0.0");
        new Script("28 clock").run("clock() = 0; send(0, 0) = 0; clock() = 1; send(7, 0) = -1; clock() = 2;"
            + "send(7, 10000) = throws IllegalArgumentException; clock() = 2; rule ah:e=1,f=2 = 0; clock() = 2; fire() = 0;"
            + "clock() = 3; fire() = -1; clock() = 3; rule e: = 1; rule f: = 2; save() = 2; run(9) = 2; clock() = 5;"
            + "restore() = 2; clock() = 3; fireRule(2) = 1; clock() = 4");
        Script.end();
    }
}
