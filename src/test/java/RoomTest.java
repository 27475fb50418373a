import com.sun.management.ThreadMXBean;
import java.lang.management.ManagementFactory;

/**
 * All calls of one run live in one room: the bytes that this thread asks for are counted, round a new
 * object and round calls that are not refused. An exception is an object too, so none is thrown here.
 */
public final class RoomTest {
    private static final int CALLS = 512;
    /** No round of fill makes more calls than this. */
    private static final int ROUND_CALLS = 70;
    private static final long OBJECT_LIMIT = 20_000;
    /** Room for what the counting itself may ask for; one small object a call would be 8,192 bytes. */
    private static final long CALLS_LIMIT = 1_000;
    private static final String[] RULES = {"af?a<f:!a=f-a,e=a", "e:f=e+1,g=e*e*e", "g:", "abcd:!a=1,!b=2,!c=3,!d=4", "h?h>9:h=h-1"};

    private static final ThreadMXBean COUNTER = (ThreadMXBean) ManagementFactory.getThreadMXBean();

    private int made = 0;
    private int lastTicket = 0;
    private double sum = 0;

    public static void main(String[] args) {
        long object = 0;
        long calls = 0;
        int made = 0;
        // The last round counts: the first ones load classes.
        for (int round = 0; round < 3; round++) {
            RoomTest test = new RoomTest();
            long start = bytes();
            JoinRuntime x = new JoinRuntime();
            object = bytes() - start;
            start = bytes();
            test.fill(x);
            calls = bytes() - start;
            made = test.made;
        }
        Script.report("bytes of a new object: " + object + ", within the limit", String.valueOf(object <= OBJECT_LIMIT), "true");
        Script.report("bytes of the calls: " + calls + ", within the limit", String.valueOf(calls <= CALLS_LIMIT), "true");
        Script.report("the number of calls: " + made + ", nearly all that are allowed", String.valueOf(made > CALLS - ROUND_CALLS && made <= CALLS), "true");
        new Script("the room").run("clock() = 0");
        Script.end();
    }

    private static long bytes() {
        return COUNTER.getThreadAllocatedBytes(Thread.currentThread().getId());
    }

    private void fill(JoinRuntime x) {
        for (int i = 0; i < RULES.length; i++) {
            addRule(x, i);
        }
        for (int i = 0; made <= CALLS - ROUND_CALLS; i++) {
            sendAll(x, i);
            look(x, i);
            if (i % 5 == 4) {
                x.removeRule(i % RULES.length);
                made++;
                addRule(x, i % RULES.length);
            }
        }
    }

    private void addRule(JoinRuntime x, int number) {
        String text = RULES[number];
        for (int i = 0; i < text.length(); i++) {
            x.append(text.charAt(i));
        }
        x.firstError();
        x.addRule();
        made += text.length() + 2;
    }

    private void sendAll(JoinRuntime x, int value) {
        for (int c = 0; c < 8; c++) {
            if (x.queueLength(c) < 8) {
                lastTicket = Math.max(lastTicket, x.send(c, value - c));
                made++;
            }
            made++;
        }
        x.save();
        x.run(100);
        x.restore();
        x.fire();
        made += 4;
        int enabled = x.enabledRules();
        made++;
        if (enabled != 0) {
            sum += x.fireRule(Integer.numberOfTrailingZeros(enabled));
            made++;
        }
    }

    private void look(JoinRuntime x, int i) {
        x.setPolicy(i % 3);
        sum += x.digest() + x.enabledRules() + x.readyRules() + x.nextRule() + x.waitingChannels();
        sum += x.meanWait(i % 8) + x.shareOf(i % RULES.length) + x.clock() + x.consumed(i % 8) + x.firings(0);
        sum += x.ruleCount() + x.patternOf(0) + x.matchOf(0, Integer.numberOfTrailingZeros(x.patternOf(0)));
        sum += (x.isStuck() ? 1 : 0) + x.clearBuffer() + x.ticketState(lastTicket);
        made += 18;
        if (x.queueLength(5) > 0) {
            sum += x.messageAt(5, 0);
            made++;
        }
        if (x.ticketState(lastTicket) == 1) {
            sum += x.replyOf(lastTicket);
            made++;
        }
        made += 2;
    }
}
