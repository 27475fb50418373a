import java.lang.reflect.InvocationTargetException;
import java.lang.reflect.Method;

/**
 * Runs calls on one new JoinRuntime, written as the document writes its examples:
 * "send(0, 7) = 0; replyOf(0) = throws IllegalStateException".
 * Two words stand for many calls: "text a:e=a = 5" appends each character and answers the length,
 * "rule a:e=a = 0" appends each character and then adds the rule.
 */
final class Script {
    private static int wrong = 0;
    private static int made = 0;

    private final String title;
    private final JoinRuntime runtime = new JoinRuntime();

    Script(String title) {
        this.title = title;
    }

    JoinRuntime runtime() {
        return runtime;
    }

    /** Runs the calls, and reports every answer that is not the one that is due. */
    Script run(String calls) {
        for (String part : calls.split(";")) {
            String call = part.trim();
            if (!call.isEmpty()) {
                int at = call.lastIndexOf(" = ");
                if (at < 0) {
                    throw new IllegalArgumentException("no answer is given: " + call);
                }
                check(call.substring(0, at).trim(), call.substring(at + 3).trim());
            }
        }
        return this;
    }

    /** Runs the calls once for each number; the sign # stands for the number. */
    Script each(int first, int last, String calls) {
        for (int i = first; i <= last; i++) {
            run(calls.replace("#", String.valueOf(i)));
        }
        return this;
    }

    private void check(String call, String due) {
        String before = ask("digest()");
        String got = ask(call);
        due(call, got, due);
        if (got.startsWith("throws ")) {
            due("digest() behind " + call, ask("digest()"), before);
        }
    }

    /** Makes one call; an exception is an answer too, so that one test cannot end another. */
    String ask(String call) {
        made++;
        if (call.startsWith("text ")) {
            return appendAll(call.substring(5));
        }
        if (call.startsWith("rule ")) {
            String last = appendAll(call.substring(5));
            return last.startsWith("throws ") ? last : ask("addRule()");
        }
        int open = call.indexOf('(');
        String name = call.substring(0, open);
        String inside = call.substring(open + 1, call.length() - 1).trim();
        String[] words = inside.isEmpty() ? new String[0] : inside.split(",");
        Object[] arguments = new Object[words.length];
        Class<?>[] types = new Class<?>[words.length];
        for (int i = 0; i < words.length; i++) {
            arguments[i] = Integer.valueOf(words[i].trim());
            types[i] = int.class;
        }
        return invoke(name, types, arguments);
    }

    private String invoke(String name, Class<?>[] types, Object[] arguments) {
        try {
            Method method = JoinRuntime.class.getMethod(name, types);
            return String.valueOf(method.invoke(runtime, arguments));
        } catch (InvocationTargetException e) {
            // The exact class counts: a subclass would be one that the machine threw.
            return "throws " + e.getCause().getClass().getSimpleName();
        } catch (ReflectiveOperationException e) {
            return "no such call";
        }
    }

    private String appendAll(String text) {
        String last = "";
        for (int i = 0; i < text.length(); i++) {
            last = ask("append(" + (int) text.charAt(i) + ")");
            if (last.startsWith("throws ")) {
                return last;
            }
        }
        return last;
    }

    /** Reports what a test has looked up itself, if it is not as due. */
    void due(String what, Object got, Object want) {
        report(title + ": " + what, String.valueOf(got), String.valueOf(want));
    }

    static void report(String what, String got, String due) {
        if (!got.equals(due)) {
            wrong++;
            System.out.println(what + " answered " + got + ", due is " + due);
        }
    }

    /** The hash of the document over the given values. */
    static long hash(long... values) {
        long hash = 1847;
        for (long x : values) {
            hash = 31 * hash + x;
        }
        return hash;
    }

    /** Ends a test's main method. */
    static void end() {
        if (made == 0) {
            System.out.println("no call was made");
            System.exit(1);
        }
        System.out.println(wrong == 0 ? "all answers are as due" : wrong + " answers are not as due");
        if (wrong != 0) {
            System.exit(1);
        }
    }
}
