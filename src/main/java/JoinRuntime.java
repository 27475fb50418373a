import java.util.Arrays;

/**
 * A runtime for join patterns: messages wait on channels, and rules consume one message from each
 * of several channels at once, compute outputs and reply to callers.
 */
public final class JoinRuntime {
    /** There is no such number. */
    public static final int NONE = -1;

    private static final int CHANNEL_LIMIT = 8;
    private static final int SYNCHRONOUS_LIMIT = 4;
    private static final int QUEUE_LIMIT = 8;
    private static final int RULE_LIMIT = 8;
    private static final int PATTERN_LIMIT = 4;
    private static final int OUTPUT_LIMIT = 4;
    private static final int OPERAND_LIMIT = 3;
    private static final int BUFFER_LIMIT = 40;
    private static final int TICKET_LIMIT = 24;
    private static final int RUN_LIMIT = 100;
    private static final int VALUE_LIMIT = 9999;
    private static final int FIRST_CODE = 32;
    private static final int LAST_CODE = 126;

    private static final int POLICY_ROTATION = 1;
    private static final int POLICY_LEAST = 2;

    private static final int TICKET_WAITING = 0;
    private static final int TICKET_ANSWERED = 1;
    private static final int TICKET_ABANDONED = 2;

    private static final long DIGEST_START = 1847L;

    private final int[] codes = new int[BUFFER_LIMIT];
    private int codeCount;
    private final RuleReader reader = new RuleReader();
    private final Rule[] rules = new Rule[RULE_LIMIT];
    private int ruleTotal;
    private int policy;
    private final State now = new State();
    private final State kept = new State();
    private boolean hasKept;

    /** For each channel, the index that the latest search for a match chose. */
    private final int[] chosen = new int[CHANNEL_LIMIT];
    /** For each channel, the value and the ticket that the latest firing consumed. */
    private final int[] takenValues = new int[CHANNEL_LIMIT];
    private final int[] takenTickets = new int[CHANNEL_LIMIT];

    public JoinRuntime() {
        for (int i = 0; i < RULE_LIMIT; i++) {
            rules[i] = new Rule();
        }
    }

    // ---- rules

    public int append(int code) throws IllegalArgumentException, IllegalStateException {
        if (code < FIRST_CODE || code > LAST_CODE) {
            throw new IllegalArgumentException("the code is not 32 to 126");
        }
        if (codeCount >= BUFFER_LIMIT) {
            throw new IllegalStateException("the buffer is full");
        }
        codes[codeCount] = code;
        codeCount++;
        return codeCount;
    }

    public int clearBuffer() {
        int length = codeCount;
        codeCount = 0;
        return length;
    }

    public int firstError() {
        return readBuffer();
    }

    public int addRule() throws IllegalArgumentException, IllegalStateException {
        if (readBuffer() < codeCount || !reader.isComplete()) {
            throw new IllegalArgumentException("the buffer is not a rule");
        }
        if (ruleTotal >= RULE_LIMIT) {
            throw new IllegalStateException("there are 8 rules");
        }
        int number = ruleTotal;
        rules[number] = reader.exchange(rules[number]);
        now.firingCounts[number] = 0;
        ruleTotal++;
        codeCount = 0;
        hasKept = false;
        return number;
    }

    public int removeRule(int rule) throws IndexOutOfBoundsException {
        requireRule(rule);
        Rule removed = rules[rule];
        ruleTotal--;
        for (int i = rule; i < ruleTotal; i++) {
            rules[i] = rules[i + 1];
            now.firingCounts[i] = now.firingCounts[i + 1];
        }
        // The slot behind the last rule keeps an object, so that the next rule can be read into it.
        rules[ruleTotal] = removed;
        if (now.lastFired >= rule) {
            now.lastFired--;
        }
        hasKept = false;
        return ruleTotal;
    }

    public int ruleCount() {
        return ruleTotal;
    }

    public int patternOf(int rule) throws IndexOutOfBoundsException {
        requireRule(rule);
        return rules[rule].pattern;
    }

    public int setPolicy(int policy) throws IllegalArgumentException {
        if (policy < 0 || policy > POLICY_LEAST) {
            throw new IllegalArgumentException("the policy is not 0 to 2");
        }
        int previous = this.policy;
        this.policy = policy;
        return previous;
    }

    // ---- messages

    public int send(int channel, int value)
            throws IndexOutOfBoundsException, IllegalArgumentException, IllegalStateException {
        requireChannel(channel);
        if (value < -VALUE_LIMIT || value > VALUE_LIMIT) {
            throw new IllegalArgumentException("the value is not -9999 to 9999");
        }
        Channel target = now.channels[channel];
        if (target.isFull()) {
            throw new IllegalStateException("the queue has 8 messages");
        }
        now.time++;
        int ticket = channel < SYNCHRONOUS_LIMIT ? now.tickets.give() : NONE;
        target.put(value, now.time, ticket);
        return ticket;
    }

    public int queueLength(int channel) throws IndexOutOfBoundsException {
        requireChannel(channel);
        return now.channels[channel].length;
    }

    public int messageAt(int channel, int index) throws IndexOutOfBoundsException {
        requireChannel(channel);
        if (!now.channels[channel].has(index)) {
            throw new IndexOutOfBoundsException("the queue has no such message");
        }
        return now.channels[channel].valueAt(index);
    }

    public int waitingChannels() {
        int mask = 0;
        for (int c = 0; c < CHANNEL_LIMIT; c++) {
            if (now.channels[c].length > 0) {
                mask |= 1 << c;
            }
        }
        return mask;
    }

    // ---- matching and firing

    public int readyRules() {
        int waiting = waitingChannels();
        int mask = 0;
        for (int r = 0; r < ruleTotal; r++) {
            if (rules[r].isReady(waiting)) {
                mask |= 1 << r;
            }
        }
        return mask;
    }

    public int enabledRules() {
        int mask = 0;
        for (int r = 0; r < ruleTotal; r++) {
            if (isEnabled(rules[r])) {
                mask |= 1 << r;
            }
        }
        return mask;
    }

    public int matchOf(int rule, int channel)
            throws IndexOutOfBoundsException, IllegalArgumentException {
        requireRule(rule);
        if (!isChannel(channel) || !rules[rule].uses(channel)) {
            throw new IllegalArgumentException("the channel is not in the pattern");
        }
        return findMatch(rules[rule]) ? chosen[channel] : NONE;
    }

    public int nextRule() {
        int start = policy == POLICY_ROTATION ? now.lastFired + 1 : 0;
        int best = NONE;
        for (int i = 0; i < ruleTotal; i++) {
            int number = (start + i) % ruleTotal;
            if (isEnabled(rules[number])) {
                if (policy != POLICY_LEAST) {
                    return number;
                }
                if (best == NONE || now.firingCounts[number] < now.firingCounts[best]) {
                    best = number;
                }
            }
        }
        return best;
    }

    public int fire() {
        int number = nextRule();
        if (number != NONE) {
            fireEnabled(number);
        }
        return number;
    }

    public int fireRule(int rule) throws IndexOutOfBoundsException, IllegalStateException {
        requireRule(rule);
        if (!isEnabled(rules[rule])) {
            throw new IllegalStateException("the rule is not enabled");
        }
        fireEnabled(rule);
        return now.firingCounts[rule];
    }

    public int run(int limit) throws IllegalArgumentException {
        if (limit < 1 || limit > RUN_LIMIT) {
            throw new IllegalArgumentException("the limit is not 1 to 100");
        }
        int fired = 0;
        while (fired < limit && fire() != NONE) {
            fired++;
        }
        return fired;
    }

    public boolean isStuck() {
        return waitingChannels() != 0 && enabledRules() == 0;
    }

    // ---- tickets

    public int ticketState(int ticket) throws IndexOutOfBoundsException {
        requireTicket(ticket);
        return now.tickets.stateOf(ticket);
    }

    public int replyOf(int ticket) throws IndexOutOfBoundsException, IllegalStateException {
        requireTicket(ticket);
        if (now.tickets.stateOf(ticket) != TICKET_ANSWERED) {
            throw new IllegalStateException("the ticket is not answered");
        }
        return now.tickets.answerTo(ticket);
    }

    // ---- statistics

    public int firings(int rule) throws IndexOutOfBoundsException {
        requireRule(rule);
        return now.firingCounts[rule];
    }

    public int consumed(int channel) throws IndexOutOfBoundsException {
        requireChannel(channel);
        return now.channels[channel].takenCount;
    }

    public double meanWait(int channel) throws IndexOutOfBoundsException {
        requireChannel(channel);
        Channel source = now.channels[channel];
        if (source.takenCount == 0) {
            return 0.0;
        }
        return (double) source.waitSum / (double) source.takenCount;
    }

    public float shareOf(int rule) throws IndexOutOfBoundsException {
        requireRule(rule);
        int sum = 0;
        for (int r = 0; r < ruleTotal; r++) {
            sum += now.firingCounts[r];
        }
        if (sum == 0) {
            return 0.0f;
        }
        return (float) now.firingCounts[rule] / (float) sum;
    }

    public int clock() {
        return now.time;
    }

    // ---- saved state

    public int save() {
        kept.copyFrom(now);
        hasKept = true;
        return now.messageCount();
    }

    public int restore() throws IllegalStateException {
        if (!hasKept) {
            throw new IllegalStateException("there is no saved state");
        }
        now.copyFrom(kept);
        return now.messageCount();
    }

    public long digest() {
        long hash = mixRules(DIGEST_START);
        for (int c = 0; c < CHANNEL_LIMIT; c++) {
            hash = now.channels[c].mixMessages(hash);
        }
        for (int c = 0; c < CHANNEL_LIMIT; c++) {
            hash = mix(hash, now.channels[c].takenCount);
            hash = mix(hash, now.channels[c].waitSum);
        }
        hash = now.tickets.mixTickets(hash);
        hash = mix(hash, now.time);
        hash = mix(hash, policy);
        hash = mix(hash, readyRules());
        hash = mix(hash, enabledRules());
        hash = mix(hash, nextRule());
        hash = mix(hash, hasKept ? 1 : 0);
        return mixBuffer(hash);
    }

    // ---- the parts of the calls above

    private void requireRule(int rule) {
        if (rule < 0 || rule >= ruleTotal) {
            throw new IndexOutOfBoundsException("there is no such rule");
        }
    }

    private void requireTicket(int ticket) {
        if (!now.tickets.knows(ticket)) {
            throw new IndexOutOfBoundsException("the ticket is not known");
        }
    }

    private static void requireChannel(int channel) {
        if (!isChannel(channel)) {
            throw new IndexOutOfBoundsException("there is no such channel");
        }
    }

    private static boolean isChannel(int number) {
        return number >= 0 && number < CHANNEL_LIMIT;
    }

    /** Reads the buffer; answers the index of the first syntax error, or the length if none. */
    private int readBuffer() {
        reader.begin();
        for (int i = 0; i < codeCount; i++) {
            if (!reader.accept(codes[i])) {
                return i;
            }
        }
        return codeCount;
    }

    private boolean isEnabled(Rule rule) {
        return findMatch(rule) && hasRoom(rule);
    }

    private boolean hasRoom(Rule rule) {
        for (int c = 0; c < CHANNEL_LIMIT; c++) {
            int left = now.channels[c].length - (rule.uses(c) ? 1 : 0);
            if (left + rule.sentTo(c) > QUEUE_LIMIT) {
                return false;
            }
        }
        return true;
    }

    /**
     * Looks for the first match of a rule and notes its indices in chosen. Only the guard can
     * refuse a choice, so every channel outside the guard takes its oldest message; the guard's
     * operands stand in ascending order, so these loops meet the least sequence first.
     */
    private boolean findMatch(Rule rule) {
        if (!rule.isReady(waitingChannels())) {
            return false;
        }
        Arrays.fill(chosen, 0);
        int left = rule.guardLeft;
        int right = rule.guardRight;
        int leftEnd = choicesOf(left);
        int rightEnd = choicesOf(right);
        for (int i = 0; i < leftEnd; i++) {
            for (int j = 0; j < rightEnd; j++) {
                boolean isChoice = left != right || i == j;
                if (isChoice && rule.guardHolds(valueOf(left, i), valueOf(right, j))) {
                    choose(left, i);
                    choose(right, j);
                    return true;
                }
            }
        }
        return false;
    }

    private int choicesOf(int operand) {
        return isChannel(operand) ? now.channels[operand].length : 1;
    }

    private int valueOf(int operand, int index) {
        return isChannel(operand)
                ? now.channels[operand].valueAt(index) : operand - CHANNEL_LIMIT;
    }

    private void choose(int operand, int index) {
        if (isChannel(operand)) {
            chosen[operand] = index;
        }
    }

    private void fireEnabled(int number) {
        Rule rule = rules[number];
        // The search is made again because the policy may have looked at other rules since.
        if (!findMatch(rule)) {
            return;
        }
        now.time++;
        now.lastFired = number;
        now.firingCounts[number]++;
        takeMessages(rule);
        for (int i = 0; i < rule.outputCount; i++) {
            carryOut(rule, i);
        }
    }

    private void takeMessages(Rule rule) {
        for (int c = 0; c < CHANNEL_LIMIT; c++) {
            if (rule.uses(c)) {
                Channel source = now.channels[c];
                takenValues[c] = source.valueAt(chosen[c]);
                takenTickets[c] = source.ticketAt(chosen[c]);
                source.take(chosen[c], now.time);
                if (!rule.repliesTo(c)) {
                    now.tickets.settle(takenTickets[c], TICKET_ABANDONED, 0);
                }
            }
        }
    }

    private void carryOut(Rule rule, int output) {
        int channel = rule.targets[output];
        if (!isChannel(channel)) {
            return;
        }
        int value = rule.outputValue(output, takenValues);
        if (rule.isReply[output]) {
            now.tickets.settle(takenTickets[channel], TICKET_ANSWERED, value);
        } else {
            now.channels[channel].put(value, now.time, NONE);
        }
    }

    private static long mix(long hash, long x) {
        return 31L * hash + x;
    }

    private long mixRules(long start) {
        long hash = mix(start, ruleTotal);
        for (int r = 0; r < ruleTotal; r++) {
            hash = mix(hash, rules[r].pattern);
            hash = mix(hash, now.firingCounts[r]);
        }
        return hash;
    }

    private long mixBuffer(long start) {
        long hash = mix(start, codeCount);
        for (int i = 0; i < codeCount; i++) {
            hash = mix(hash, codes[i]);
        }
        return hash;
    }

    /** The queue of a channel, and what has been consumed from it. */
    private static final class Channel {
        private final int[] values = new int[QUEUE_LIMIT];
        private final int[] stamps = new int[QUEUE_LIMIT];
        private final int[] tickets = new int[QUEUE_LIMIT];
        private int length;
        private int takenCount;
        private long waitSum;

        boolean isFull() {
            return length >= QUEUE_LIMIT;
        }

        boolean has(int index) {
            return index >= 0 && index < length;
        }

        int valueAt(int index) {
            return index >= 0 && index < length ? values[index] : 0;
        }

        int ticketAt(int index) {
            return has(index) ? tickets[index] : NONE;
        }

        void put(int value, int stamp, int ticket) {
            if (isFull()) {
                return;
            }
            values[length] = value;
            stamps[length] = stamp;
            tickets[length] = ticket;
            length++;
        }

        void take(int index, int time) {
            if (!has(index)) {
                return;
            }
            takenCount++;
            waitSum += time - stamps[index];
            length--;
            for (int i = index; i < length; i++) {
                values[i] = values[i + 1];
                stamps[i] = stamps[i + 1];
                tickets[i] = tickets[i + 1];
            }
        }

        void copyFrom(Channel other) {
            System.arraycopy(other.values, 0, values, 0, QUEUE_LIMIT);
            System.arraycopy(other.stamps, 0, stamps, 0, QUEUE_LIMIT);
            System.arraycopy(other.tickets, 0, tickets, 0, QUEUE_LIMIT);
            length = other.length;
            takenCount = other.takenCount;
            waitSum = other.waitSum;
        }

        long mixMessages(long start) {
            long hash = mix(start, length);
            for (int i = 0; i < length; i++) {
                hash = mix(hash, values[i]);
                hash = mix(hash, stamps[i]);
                hash = mix(hash, tickets[i]);
            }
            return hash;
        }
    }

    /** The tickets; those that are known lie in rings, each at its number modulo the limit. */
    private static final class Tickets {
        private final int[] states = new int[TICKET_LIMIT];
        private final int[] replies = new int[TICKET_LIMIT];
        private int given;

        int give() {
            int ticket = given;
            given++;
            states[placeOf(ticket)] = TICKET_WAITING;
            replies[placeOf(ticket)] = 0;
            return ticket;
        }

        /** Unlike %, floorMod answers an index of the rings for every int. */
        private static int placeOf(int ticket) {
            return Math.floorMod(ticket, TICKET_LIMIT);
        }

        boolean knows(int ticket) {
            return ticket >= firstKnown() && ticket < given;
        }

        int stateOf(int ticket) {
            return knows(ticket) ? states[placeOf(ticket)] : TICKET_WAITING;
        }

        int answerTo(int ticket) {
            return knows(ticket) ? replies[placeOf(ticket)] : 0;
        }

        /** A message may wait longer than its ticket is known: then there is nothing to note. */
        void settle(int ticket, int state, int reply) {
            if (knows(ticket)) {
                states[placeOf(ticket)] = state;
                replies[placeOf(ticket)] = reply;
            }
        }

        void copyFrom(Tickets other) {
            System.arraycopy(other.states, 0, states, 0, TICKET_LIMIT);
            System.arraycopy(other.replies, 0, replies, 0, TICKET_LIMIT);
            given = other.given;
        }

        long mixTickets(long start) {
            long hash = mix(start, given);
            for (int t = firstKnown(); t < given; t++) {
                hash = mix(hash, stateOf(t));
                if (stateOf(t) == TICKET_ANSWERED) {
                    hash = mix(hash, answerTo(t));
                }
            }
            return hash;
        }

        private int firstKnown() {
            return given > TICKET_LIMIT ? given - TICKET_LIMIT : 0;
        }
    }

    /** All that save saves and restore restores. */
    private static final class State {
        private final Channel[] channels = new Channel[CHANNEL_LIMIT];
        private final Tickets tickets = new Tickets();
        private final int[] firingCounts = new int[RULE_LIMIT];
        private int time;
        private int lastFired = NONE;

        State() {
            for (int c = 0; c < CHANNEL_LIMIT; c++) {
                channels[c] = new Channel();
            }
        }

        void copyFrom(State other) {
            for (int c = 0; c < CHANNEL_LIMIT; c++) {
                channels[c].copyFrom(other.channels[c]);
            }
            tickets.copyFrom(other.tickets);
            System.arraycopy(other.firingCounts, 0, firingCounts, 0, RULE_LIMIT);
            time = other.time;
            lastFired = other.lastFired;
        }

        int messageCount() {
            int sum = 0;
            for (int c = 0; c < CHANNEL_LIMIT; c++) {
                sum += channels[c].length;
            }
            return sum;
        }
    }

    /**
     * A rule as it was read. An operand below CHANNEL_LIMIT is a channel; the others are digits,
     * each CHANNEL_LIMIT greater than its number.
     */
    private static final class Rule {
        private int pattern;
        private int guardLeft;
        private int guardSign;
        private int guardRight;
        private int replies;
        private int outputCount;
        private final int[] targets = new int[OUTPUT_LIMIT];
        private final boolean[] isReply = new boolean[OUTPUT_LIMIT];
        private final int[] operandCounts = new int[OUTPUT_LIMIT];
        private final int[] signs = new int[OUTPUT_LIMIT * OPERAND_LIMIT];
        private final int[] operands = new int[OUTPUT_LIMIT * OPERAND_LIMIT];

        void clear() {
            pattern = 0;
            replies = 0;
            outputCount = 0;
            // A rule without a guard has one that is always true: 0=0.
            setGuard(CHANNEL_LIMIT, '=', CHANNEL_LIMIT);
        }

        boolean uses(int channel) {
            return (pattern >> channel & 1) != 0;
        }

        boolean repliesTo(int channel) {
            return (replies >> channel & 1) != 0;
        }

        boolean isReady(int waitingMask) {
            return (pattern & waitingMask) == pattern;
        }

        void addChannel(int channel) {
            pattern |= 1 << channel;
        }

        /** The lesser operand is put left, because the search for a match tries it first. */
        void setGuard(int left, int sign, int right) {
            boolean turned = left > right;
            guardLeft = turned ? right : left;
            guardRight = turned ? left : right;
            guardSign = turned ? mirrored(sign) : sign;
        }

        private static int mirrored(int sign) {
            if (sign == '<') {
                return '>';
            }
            return sign == '>' ? '<' : sign;
        }

        boolean guardHolds(int left, int right) {
            if (guardSign == '<') {
                return left < right;
            }
            return guardSign == '>' ? left > right : left == right;
        }

        void addOutput(int channel, boolean reply) {
            if (outputCount >= OUTPUT_LIMIT) {
                return;
            }
            targets[outputCount] = channel;
            isReply[outputCount] = reply;
            operandCounts[outputCount] = 0;
            if (reply) {
                replies |= 1 << channel;
            }
            outputCount++;
        }

        void addOperand(int sign, int operand) {
            int output = outputCount - 1;
            if (output < 0 || lastOperandCount() >= OPERAND_LIMIT) {
                return;
            }
            int place = output * OPERAND_LIMIT + operandCounts[output];
            signs[place] = sign;
            operands[place] = operand;
            operandCounts[output]++;
        }

        int lastOperandCount() {
            return outputCount == 0 ? 0 : operandCounts[outputCount - 1];
        }

        int sentTo(int channel) {
            int count = 0;
            for (int i = 0; i < outputCount; i++) {
                if (!isReply[i] && targets[i] == channel) {
                    count++;
                }
            }
            return count;
        }

        /** Computes in long, because three factors exceed an int before the limit is applied. */
        int outputValue(int output, int[] values) {
            long result = 0;
            int first = output * OPERAND_LIMIT;
            for (int i = first; i < first + operandCounts[output]; i++) {
                int operand = operands[i];
                int x = isChannel(operand) ? values[operand] : operand - CHANNEL_LIMIT;
                if (signs[i] == '*') {
                    result *= x;
                } else {
                    result += signs[i] == '-' ? -x : x;
                }
            }
            return (int) Math.max(-VALUE_LIMIT, Math.min(VALUE_LIMIT, result));
        }
    }

    /** Reads a rule from left to right, a character at a time, into a rule of its own. */
    private static final class RuleReader {
        private static final int IN_PATTERN = 0;
        private static final int AT_GUARD_LEFT = 1;
        private static final int AT_GUARD_SIGN = 2;
        private static final int AT_GUARD_RIGHT = 3;
        private static final int AT_COLON = 4;
        private static final int BEHIND_COLON = 5;
        private static final int AT_OUTPUT = 6;
        private static final int AT_REPLY_CHANNEL = 7;
        private static final int AT_EQUALS = 8;
        private static final int AT_OPERAND = 9;
        private static final int BEHIND_OPERAND = 10;

        private Rule rule = new Rule();
        private int place;
        private int guardLeft;
        /** The sign that stands before the operand to come. */
        private int sign;

        void begin() {
            rule.clear();
            place = IN_PATTERN;
        }

        /** Tells whether the characters so far are a whole rule. */
        boolean isComplete() {
            return place == BEHIND_COLON || place == BEHIND_OPERAND;
        }

        /** Gives the rule away that was read, and takes another one for the next reading. */
        Rule exchange(Rule spare) {
            Rule result = rule;
            rule = spare;
            return result;
        }

        /** Answers false, and changes nothing, if the character is not allowed at its place. */
        boolean accept(int code) {
            switch (place) {
                case IN_PATTERN:
                    return acceptInPattern(code);
                case AT_GUARD_LEFT:
                case AT_GUARD_RIGHT:
                case AT_OPERAND:
                    return acceptOperand(operandOf(code));
                case AT_GUARD_SIGN:
                    return acceptGuardSign(code);
                case AT_COLON:
                    return code == ':' && goTo(BEHIND_COLON);
                case BEHIND_COLON:
                case AT_OUTPUT:
                    return acceptTarget(code);
                case AT_REPLY_CHANNEL:
                    return acceptReplyChannel(code);
                case AT_EQUALS:
                    return code == '=' && goToOperand('+');
                default:
                    return acceptBehindOperand(code);
            }
        }

        private boolean goTo(int next) {
            place = next;
            return true;
        }

        private boolean goToOperand(int signBefore) {
            sign = signBefore;
            return goTo(AT_OPERAND);
        }

        private boolean acceptInPattern(int code) {
            if (isLetter(code)) {
                int channel = code - 'a';
                // No channel of the pattern so far may be this one or a greater one.
                if (rule.pattern >> channel != 0
                        || Integer.bitCount(rule.pattern) >= PATTERN_LIMIT) {
                    return false;
                }
                rule.addChannel(channel);
                return true;
            }
            if (rule.pattern == 0) {
                return false;
            }
            if (code == '?') {
                return goTo(AT_GUARD_LEFT);
            }
            return code == ':' && goTo(BEHIND_COLON);
        }

        private boolean acceptGuardSign(int code) {
            if (code != '<' && code != '=' && code != '>') {
                return false;
            }
            sign = code;
            return goTo(AT_GUARD_RIGHT);
        }

        private boolean acceptOperand(int operand) {
            if (operand == NONE) {
                return false;
            }
            if (place == AT_GUARD_LEFT) {
                guardLeft = operand;
                return goTo(AT_GUARD_SIGN);
            }
            if (place == AT_GUARD_RIGHT) {
                rule.setGuard(guardLeft, sign, operand);
                return goTo(AT_COLON);
            }
            rule.addOperand(sign, operand);
            return goTo(BEHIND_OPERAND);
        }

        private boolean acceptTarget(int code) {
            if (code == '!') {
                return goTo(AT_REPLY_CHANNEL);
            }
            if (!isLetter(code)) {
                return false;
            }
            rule.addOutput(code - 'a', false);
            return goTo(AT_EQUALS);
        }

        private boolean acceptReplyChannel(int code) {
            int channel = code - 'a';
            if (!isLetter(code) || channel >= SYNCHRONOUS_LIMIT
                    || !rule.uses(channel) || rule.repliesTo(channel)) {
                return false;
            }
            rule.addOutput(channel, true);
            return goTo(AT_EQUALS);
        }

        private boolean acceptBehindOperand(int code) {
            if (code == ',') {
                return rule.outputCount < OUTPUT_LIMIT && goTo(AT_OUTPUT);
            }
            boolean isSign = code == '+' || code == '-' || code == '*';
            return isSign && rule.lastOperandCount() < OPERAND_LIMIT && goToOperand(code);
        }

        /** Answers the operand that a character stands for; NONE if it is no operand here. */
        private int operandOf(int code) {
            if (code >= '0' && code <= '9') {
                return CHANNEL_LIMIT + code - '0';
            }
            return isLetter(code) && rule.uses(code - 'a') ? code - 'a' : NONE;
        }

        private static boolean isLetter(int code) {
            return isChannel(code - 'a');
        }
    }
}
