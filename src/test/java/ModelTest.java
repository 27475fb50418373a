import java.util.Random;
import java.util.function.Supplier;

/** Compares JoinRuntime with Model over many runs of calls; the seeds are fixed. */
public final class ModelTest {
    private static final int RUNS = 1500;
    private static final int CALLS = 400;

    private final Random random;
    private final StringBuilder history = new StringBuilder();
    private final JoinRuntime real = new JoinRuntime();
    private final Model model = new Model();
    /** Few channels and small values make matches and full queues likely. */
    private final int channels;
    private final int range;
    private boolean differs = false;

    private ModelTest(int seed) {
        random = new Random(seed);
        channels = 2 + random.nextInt(7);
        range = new int[] {3, 12, 150, 9999}[random.nextInt(4)];
    }

    public static void main(String[] args) {
        int wrong = 0;
        for (int seed = 0; seed < RUNS && wrong < 5; seed++) {
            ModelTest test = new ModelTest(seed);
            for (int i = 0; i < CALLS && !test.differs; i++) {
                test.step();
            }
            if (test.differs) {
                wrong++;
                System.out.println("seed " + seed + ":\n" + test.history);
            }
        }
        System.out.println(wrong == 0 ? "all answers are as due" : wrong + " runs are not as due");
        System.exit(wrong == 0 ? 0 : 1);
    }

    private static String outcome(Supplier<Object> call) {
        try {
            return String.valueOf(call.get());
        } catch (RuntimeException e) {
            return "throws." + e.getClass().getSimpleName();
        }
    }

    private void compare(String call, Supplier<Object> got, Supplier<Object> due) {
        String answer = outcome(got);
        String dueAnswer = outcome(due);
        history.append(call).append(" = ").append(answer).append('\n');
        if (!answer.equals(dueAnswer)) {
            history.append("  due is ").append(dueAnswer).append('\n');
            differs = true;
        }
    }

    private void step() {
        switch (random.nextInt(12)) {
            case 0 -> writeRule();
            case 1 -> changeRules();
            case 2, 3, 4, 5 -> send();
            case 6, 7, 8 -> fire();
            case 9 -> look();
            case 10 -> lookMore();
            default -> savedState();
        }
        if (random.nextInt(4) == 0) {
            compare("digest()", real::digest, model::digest);
        }
    }

    private int any(int low, int high) {
        return low + random.nextInt(high - low + 1);
    }

    private char pick(String text) {
        return text.charAt(random.nextInt(text.length()));
    }

    private int channel() {
        return random.nextInt(30) == 0 ? any(-2, 9) : random.nextInt(channels);
    }

    private int rule() {
        return any(-1, 8) % Math.max(1, model.ruleCount() + (random.nextInt(10) == 0 ? 1 : 0));
    }

    private void append(int code) {
        compare("append(" + code + ")", () -> real.append(code), () -> model.append(code));
    }

    private void firstError() {
        compare("firstError()", real::firstError, model::firstError);
    }

    private void addRule() {
        compare("addRule()", real::addRule, model::addRule);
    }

    private void clearBuffer() {
        compare("clearBuffer()", real::clearBuffer, model::clearBuffer);
    }

    private void writeRule() {
        if (random.nextInt(3) == 0) {
            writeByChance();
        } else {
            clearBuffer();
            for (char c : ruleText().toCharArray()) {
                append(random.nextInt(200) == 0 ? any(28, 130) : c);
            }
        }
        firstError();
        addRule();
        if (random.nextInt(3) > 0) {
            clearBuffer();
        }
    }

    /** Lets a text grow by characters that are mostly allowed, so that all places are reached. */
    private void writeByChance() {
        String all = "abcdefgh0123456789!?:,=<>+-*i";
        String text = "";
        clearBuffer();
        int length = any(1, 42);
        for (int i = 0; i < length; i++) {
            char c = pick(all);
            for (int tries = 0; tries < 60 && !Model.allowed(text, c); tries++) {
                c = pick(all);
            }
            append(c);
            firstError();
            if (!Model.allowed(text, c)) {
                return;
            }
            text += c;
        }
    }

    private String ruleText() {
        StringBuilder pattern = new StringBuilder();
        int wanted = 1 + random.nextInt(random.nextInt(4) + 1);
        for (int c = 0; c < channels && pattern.length() < wanted; c++) {
            if (random.nextInt(channels - c) < wanted - pattern.length()) {
                pattern.append((char) ('a' + c));
            }
        }
        StringBuilder text = new StringBuilder(pattern);
        if (random.nextBoolean()) {
            text.append('?').append(operand(pattern)).append(pick("<=>")).append(operand(pattern));
        }
        text.append(':');
        int outputs = random.nextInt(5);
        for (int i = 0; i < outputs; i++) {
            text.append(i > 0 ? "," : "");
            char letter = random.nextBoolean() ? pick(pattern.toString()) : (char) ('a' + random.nextInt(channels));
            boolean reply = letter <= 'd' && pattern.indexOf("" + letter) >= 0 && text.indexOf("!" + letter) < 0;
            text.append(reply && random.nextInt(3) > 0 ? "!" : "").append(letter).append('=');
            text.append(operand(pattern));
            for (int k = random.nextInt(3); k > 0; k--) {
                text.append(pick("+-*")).append(operand(pattern));
            }
        }
        return text.toString();
    }

    private char operand(StringBuilder pattern) {
        return random.nextInt(3) == 0 ? pick("0123456789") : pick(pattern.toString());
    }

    private void changeRules() {
        int r = rule();
        int policy = any(0, 2) + (random.nextInt(10) == 0 ? 2 : 0);
        if (random.nextInt(4) == 0) {
            compare("removeRule(" + r + ")", () -> real.removeRule(r), () -> model.removeRule(r));
        } else {
            compare("setPolicy(" + policy + ")", () -> real.setPolicy(policy), () -> model.setPolicy(policy));
        }
    }

    private void send() {
        int c = channel();
        int value = any(-range, range) + (random.nextInt(40) == 0 ? any(-9999, 9999) : 0);
        compare("send(" + c + ", " + value + ")", () -> real.send(c, value), () -> model.send(c, value));
    }

    private void fire() {
        int r = rule();
        int limit = random.nextInt(8) == 0 ? any(-1, 102) : any(1, 6);
        switch (random.nextInt(4)) {
            case 0, 1 -> compare("fire()", real::fire, model::fire);
            case 2 -> compare("fireRule(" + r + ")", () -> real.fireRule(r), () -> model.fireRule(r));
            default -> compare("run(" + limit + ")", () -> real.run(limit), () -> model.run(limit));
        }
    }

    private void look() {
        int c = channel();
        int index = any(-1, 8);
        int r = rule();
        compare("messageAt(" + c + ", " + index + ")", () -> real.messageAt(c, index), () -> model.messageAt(c, index));
        compare("queueLength(" + c + ")", () -> real.queueLength(c), () -> model.queueLength(c));
        compare("matchOf(" + r + ", " + c + ")", () -> real.matchOf(r, c), () -> model.matchOf(r, c));
        compare("patternOf(" + r + ")", () -> real.patternOf(r), () -> model.patternOf(r));
        compare("waitingChannels()", real::waitingChannels, model::waitingChannels);
        compare("readyRules()", real::readyRules, model::readyRules);
        compare("enabledRules()", real::enabledRules, model::enabledRules);
        compare("nextRule()", real::nextRule, model::nextRule);
        compare("isStuck()", real::isStuck, model::isStuck);
    }

    private void lookMore() {
        int c = channel();
        int r = rule();
        int ticket = any(-1, 60);
        compare("ticketState(" + ticket + ")", () -> real.ticketState(ticket), () -> model.ticketState(ticket));
        compare("replyOf(" + ticket + ")", () -> real.replyOf(ticket), () -> model.replyOf(ticket));
        compare("firings(" + r + ")", () -> real.firings(r), () -> model.firings(r));
        compare("shareOf(" + r + ")", () -> real.shareOf(r), () -> model.shareOf(r));
        compare("consumed(" + c + ")", () -> real.consumed(c), () -> model.consumed(c));
        compare("meanWait(" + c + ")", () -> real.meanWait(c), () -> model.meanWait(c));
        compare("clock()", real::clock, model::clock);
        compare("ruleCount()", real::ruleCount, model::ruleCount);
    }

    private void savedState() {
        if (random.nextBoolean()) {
            compare("save()", real::save, model::save);
        } else if (random.nextInt(3) == 0) {
            compare("restore()", real::restore, model::restore);
        }
    }
}
