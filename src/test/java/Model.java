import java.math.BigInteger;
import java.util.ArrayList;
import java.util.List;

/**
 * The document once more, written as plainly as can be and without regard to speed: a rule stays
 * a text, and a match is looked for among all choices. ModelTest compares JoinRuntime with it.
 */
final class Model {
    private static final class Message {
        final int value;
        final int stamp;
        final int ticket;

        Message(int value, int stamp, int ticket) {
            this.value = value;
            this.stamp = stamp;
            this.ticket = ticket;
        }
    }

    private static final class World {
        final List<List<Message>> queues = new ArrayList<>();
        final List<Integer> states = new ArrayList<>();
        final List<Integer> replies = new ArrayList<>();
        final List<Integer> firings = new ArrayList<>();
        final int[] consumed = new int[8];
        final long[] waits = new long[8];
        int clock = 0;
        int last = -1;

        World copy() {
            World w = new World();
            for (List<Message> queue : queues) {
                w.queues.add(new ArrayList<>(queue));
            }
            w.states.addAll(states);
            w.replies.addAll(replies);
            w.firings.addAll(firings);
            System.arraycopy(consumed, 0, w.consumed, 0, 8);
            System.arraycopy(waits, 0, w.waits, 0, 8);
            w.clock = clock;
            w.last = last;
            return w;
        }

        int messages() {
            return queues.stream().mapToInt(List::size).sum();
        }
    }

    private String buffer = "";
    private final List<String> rules = new ArrayList<>();
    private int policy = 0;
    private World world = new World();
    private World saved = null;

    Model() {
        for (int c = 0; c < 8; c++) {
            world.queues.add(new ArrayList<>());
        }
    }

    // ---- the text of a rule

    private static boolean operand(String pattern, char c) {
        return c >= '0' && c <= '9' || pattern.indexOf(c) >= 0;
    }

    /** Whether the character may stand behind a text in which no character is an error. */
    static boolean allowed(String text, char c) {
        int colon = text.indexOf(':');
        int question = text.indexOf('?');
        if (colon < 0 && question < 0) {
            if (c == '?' || c == ':') {
                return !text.isEmpty();
            }
            boolean greater = text.isEmpty() || c > text.charAt(text.length() - 1);
            return "abcdefgh".indexOf(c) >= 0 && greater && text.length() < 4;
        }
        if (colon < 0) {
            int behind = text.length() - question - 1;
            String pattern = text.substring(0, question);
            return switch (behind) {
                case 0, 2 -> operand(pattern, c);
                case 1 -> "<=>".indexOf(c) >= 0;
                default -> c == ':';
            };
        }
        String[] outputs = text.substring(colon + 1).split(",", -1);
        return allowedInOutput(patternText(text), outputs, c);
    }

    private static boolean allowedInOutput(String pattern, String[] outputs, char c) {
        String current = outputs[outputs.length - 1];
        if (current.isEmpty()) {
            return c == '!' || "abcdefgh".indexOf(c) >= 0;
        }
        if (current.equals("!")) {
            for (int i = 0; i < outputs.length - 1; i++) {
                if (outputs[i].startsWith("!" + c)) {
                    return false;
                }
            }
            return "abcd".indexOf(c) >= 0 && pattern.indexOf(c) >= 0;
        }
        int equals = current.indexOf('=');
        if (equals < 0) {
            return c == '=';
        }
        int behind = current.length() - equals - 1;
        if (behind % 2 == 0) {
            return operand(pattern, c);
        }
        if (c == ',') {
            return outputs.length < 4;
        }
        return "+-*".indexOf(c) >= 0 && (behind + 1) / 2 < 3;
    }

    int firstError() {
        for (int i = 0; i < buffer.length(); i++) {
            if (!allowed(buffer.substring(0, i), buffer.charAt(i))) {
                return i;
            }
        }
        return buffer.length();
    }

    private boolean isRule() {
        if (firstError() < buffer.length() || buffer.indexOf(':') < 0) {
            return false;
        }
        String tail = buffer.substring(buffer.indexOf(':') + 1);
        if (tail.isEmpty()) {
            return true;
        }
        String current = tail.substring(tail.lastIndexOf(',') + 1);
        int equals = current.indexOf('=');
        return equals >= 0 && (current.length() - equals - 1) % 2 == 1;
    }

    private static String patternText(String rule) {
        int end = rule.indexOf(':');
        int question = rule.indexOf('?');
        return rule.substring(0, question >= 0 && question < end ? question : end);
    }

    private static String[] outputsOf(String rule) {
        String tail = rule.substring(rule.indexOf(':') + 1);
        return tail.isEmpty() ? new String[0] : tail.split(",");
    }

    // ---- rules

    int append(int code) {
        if (code < 32 || code > 126) {
            throw new IllegalArgumentException();
        }
        if (buffer.length() == 40) {
            throw new IllegalStateException();
        }
        buffer += (char) code;
        return buffer.length();
    }

    int clearBuffer() {
        int length = buffer.length();
        buffer = "";
        return length;
    }

    int addRule() {
        if (!isRule()) {
            throw new IllegalArgumentException();
        }
        if (rules.size() == 8) {
            throw new IllegalStateException();
        }
        rules.add(buffer);
        world.firings.add(0);
        buffer = "";
        saved = null;
        return rules.size() - 1;
    }

    private void needRule(int rule) {
        if (rule < 0 || rule >= rules.size()) {
            throw new IndexOutOfBoundsException();
        }
    }

    private static void needChannel(int channel) {
        if (channel < 0 || channel > 7) {
            throw new IndexOutOfBoundsException();
        }
    }

    int removeRule(int rule) {
        needRule(rule);
        rules.remove(rule);
        world.firings.remove(rule);
        if (world.last == rule) {
            world.last = rule == 0 ? -1 : rule - 1;
        } else if (world.last > rule) {
            world.last = world.last - 1;
        }
        saved = null;
        return rules.size();
    }

    int ruleCount() {
        return rules.size();
    }

    int patternOf(int rule) {
        needRule(rule);
        int mask = 0;
        for (char c : patternText(rules.get(rule)).toCharArray()) {
            mask += 1 << (c - 'a');
        }
        return mask;
    }

    int setPolicy(int value) {
        if (value < 0 || value > 2) {
            throw new IllegalArgumentException();
        }
        int previous = policy;
        policy = value;
        return previous;
    }

    // ---- messages

    int send(int channel, int value) {
        needChannel(channel);
        if (Math.abs((long) value) > 9999) {
            throw new IllegalArgumentException();
        }
        if (world.queues.get(channel).size() == 8) {
            throw new IllegalStateException();
        }
        world.clock++;
        int ticket = -1;
        if (channel < 4) {
            ticket = world.states.size();
            world.states.add(0);
            world.replies.add(null);
        }
        world.queues.get(channel).add(new Message(value, world.clock, ticket));
        return ticket;
    }

    int queueLength(int channel) {
        needChannel(channel);
        return world.queues.get(channel).size();
    }

    int messageAt(int channel, int index) {
        needChannel(channel);
        if (index < 0 || index >= world.queues.get(channel).size()) {
            throw new IndexOutOfBoundsException();
        }
        return world.queues.get(channel).get(index).value;
    }

    int waitingChannels() {
        int mask = 0;
        for (int c = 0; c < 8; c++) {
            mask += world.queues.get(c).isEmpty() ? 0 : 1 << c;
        }
        return mask;
    }

    // ---- matching and firing

    int readyRules() {
        int mask = 0;
        for (int r = 0; r < rules.size(); r++) {
            mask += (patternOf(r) & ~waitingChannels()) == 0 ? 1 << r : 0;
        }
        return mask;
    }

    private int valueOf(String pattern, int[] choice, char operand) {
        if (operand <= '9') {
            return operand - '0';
        }
        int at = pattern.indexOf(operand);
        return world.queues.get(operand - 'a').get(choice[at]).value;
    }

    private boolean guardHolds(String rule, int[] choice) {
        int question = rule.indexOf('?');
        if (question < 0) {
            return true;
        }
        String pattern = patternText(rule);
        int left = valueOf(pattern, choice, rule.charAt(question + 1));
        int right = valueOf(pattern, choice, rule.charAt(question + 3));
        int order = Integer.compare(left, right);
        return "<=>".charAt(order + 1) == rule.charAt(question + 2);
    }

    /** Tries all choices in lexicographic order. */
    private boolean search(String rule, int[] choice, int depth) {
        if (depth == choice.length) {
            return guardHolds(rule, choice);
        }
        int size = world.queues.get(rule.charAt(depth) - 'a').size();
        for (int i = 0; i < size; i++) {
            choice[depth] = i;
            if (search(rule, choice, depth + 1)) {
                return true;
            }
        }
        return false;
    }

    private int[] firstMatch(String rule) {
        int[] choice = new int[patternText(rule).length()];
        return search(rule, choice, 0) ? choice : null;
    }

    private boolean hasRoom(String rule) {
        for (int c = 0; c < 8; c++) {
            char letter = (char) ('a' + c);
            int count = world.queues.get(c).size();
            if (patternText(rule).indexOf(letter) >= 0) {
                count--;
            }
            for (String output : outputsOf(rule)) {
                if (output.charAt(0) == letter) {
                    count++;
                }
            }
            if (count > 8) {
                return false;
            }
        }
        return true;
    }

    private boolean enabled(int r) {
        return firstMatch(rules.get(r)) != null && hasRoom(rules.get(r));
    }

    int enabledRules() {
        int mask = 0;
        for (int r = 0; r < rules.size(); r++) {
            mask += enabled(r) ? 1 << r : 0;
        }
        return mask;
    }

    int matchOf(int rule, int channel) {
        needRule(rule);
        int at = patternText(rules.get(rule)).indexOf('a' + channel);
        if (channel < 0 || channel > 7 || at < 0) {
            throw new IllegalArgumentException();
        }
        int[] match = firstMatch(rules.get(rule));
        return match == null ? -1 : match[at];
    }

    int nextRule() {
        List<Integer> order = new ArrayList<>();
        for (int r = 0; r < rules.size(); r++) {
            if (enabled(r)) {
                order.add(r);
            }
        }
        if (order.isEmpty()) {
            return -1;
        }
        if (policy == 1) {
            for (int r : order) {
                if (r > world.last) {
                    return r;
                }
            }
        }
        if (policy == 2) {
            int least = order.stream().mapToInt(world.firings::get).min().getAsInt();
            for (int r : order) {
                if (world.firings.get(r) == least) {
                    return r;
                }
            }
        }
        return order.get(0);
    }

    private int result(String pattern, List<Message> taken, String text) {
        BigInteger sum = BigInteger.ZERO;
        for (int i = 0; i < text.length(); i += 2) {
            char operand = text.charAt(i);
            int at = pattern.indexOf(operand);
            BigInteger x = BigInteger.valueOf(at < 0 ? operand - '0' : taken.get(at).value);
            char sign = i == 0 ? '+' : text.charAt(i - 1);
            sum = sign == '*' ? sum.multiply(x) : sign == '-' ? sum.subtract(x) : sum.add(x);
        }
        return sum.min(BigInteger.valueOf(9999)).max(BigInteger.valueOf(-9999)).intValue();
    }

    private void carryOut(int r) {
        String rule = rules.get(r);
        String pattern = patternText(rule);
        int[] match = firstMatch(rule);
        List<Message> taken = new ArrayList<>();
        world.clock++;
        for (int i = 0; i < match.length; i++) {
            int c = pattern.charAt(i) - 'a';
            Message message = world.queues.get(c).remove(match[i]);
            taken.add(message);
            world.consumed[c]++;
            world.waits[c] += world.clock - message.stamp;
            if (message.ticket >= 0) {
                world.states.set(message.ticket, 2);
            }
        }
        for (String output : outputsOf(rule)) {
            int value = result(pattern, taken, output.substring(output.indexOf('=') + 1));
            if (output.charAt(0) == '!') {
                int ticket = taken.get(pattern.indexOf(output.charAt(1))).ticket;
                if (ticket >= 0) {
                    world.states.set(ticket, 1);
                    world.replies.set(ticket, value);
                }
            } else {
                world.queues.get(output.charAt(0) - 'a').add(new Message(value, world.clock, -1));
            }
        }
        world.firings.set(r, world.firings.get(r) + 1);
        world.last = r;
    }

    int fire() {
        int r = nextRule();
        if (r >= 0) {
            carryOut(r);
        }
        return r;
    }

    int fireRule(int rule) {
        needRule(rule);
        if (!enabled(rule)) {
            throw new IllegalStateException();
        }
        carryOut(rule);
        return world.firings.get(rule);
    }

    int run(int limit) {
        if (limit < 1 || limit > 100) {
            throw new IllegalArgumentException();
        }
        for (int i = 0; i < limit; i++) {
            if (fire() < 0) {
                return i;
            }
        }
        return limit;
    }

    boolean isStuck() {
        return world.messages() > 0 && nextRule() < 0;
    }

    // ---- tickets and statistics

    private void needTicket(int ticket) {
        int given = world.states.size();
        if (ticket < 0 || ticket >= given || ticket < given - 24) {
            throw new IndexOutOfBoundsException();
        }
    }

    int ticketState(int ticket) {
        needTicket(ticket);
        return world.states.get(ticket);
    }

    int replyOf(int ticket) {
        needTicket(ticket);
        if (world.states.get(ticket) != 1) {
            throw new IllegalStateException();
        }
        return world.replies.get(ticket);
    }

    int firings(int rule) {
        needRule(rule);
        return world.firings.get(rule);
    }

    int consumed(int channel) {
        needChannel(channel);
        return world.consumed[channel];
    }

    double meanWait(int channel) {
        needChannel(channel);
        return world.consumed[channel] == 0 ? 0.0 : (double) world.waits[channel] / world.consumed[channel];
    }

    float shareOf(int rule) {
        needRule(rule);
        int sum = world.firings.stream().mapToInt(Integer::intValue).sum();
        return sum == 0 ? 0.0f : (float) world.firings.get(rule) / (float) sum;
    }

    int clock() {
        return world.clock;
    }

    // ---- saved state

    int save() {
        saved = world.copy();
        return world.messages();
    }

    int restore() {
        if (saved == null) {
            throw new IllegalStateException();
        }
        world = saved.copy();
        return world.messages();
    }

    long digest() {
        List<Long> values = new ArrayList<>();
        values.add((long) rules.size());
        for (int r = 0; r < rules.size(); r++) {
            values.add((long) patternOf(r));
            values.add((long) world.firings.get(r));
        }
        for (List<Message> queue : world.queues) {
            values.add((long) queue.size());
            for (Message message : queue) {
                values.add((long) message.value);
                values.add((long) message.stamp);
                values.add((long) message.ticket);
            }
        }
        for (int c = 0; c < 8; c++) {
            values.add((long) world.consumed[c]);
            values.add(world.waits[c]);
        }
        int given = world.states.size();
        values.add((long) given);
        for (int t = Math.max(0, given - 24); t < given; t++) {
            values.add((long) world.states.get(t));
            if (world.states.get(t) == 1) {
                values.add((long) world.replies.get(t));
            }
        }
        for (int x : new int[] {world.clock, policy, readyRules(), enabledRules(), nextRule(),
                saved == null ? 0 : 1, buffer.length()}) {
            values.add((long) x);
        }
        buffer.chars().forEach(code -> values.add((long) code));
        return Script.hash(values.stream().mapToLong(Long::longValue).toArray());
    }
}
