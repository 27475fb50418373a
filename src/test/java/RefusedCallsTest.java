import java.lang.reflect.InvocationTargetException;
import java.lang.reflect.Method;
import java.lang.reflect.Modifier;
import java.util.ArrayList;
import java.util.Arrays;
import java.util.Comparator;
import java.util.List;
import java.util.Random;

/**
 * "A call that throws an exception changes nothing": two objects get the same calls, but one of them
 * also gets those that are refused; all that they answer must be the same. The seeds are fixed.
 * It also looks that a call throws what its throws clause names, by a throw statement of its own.
 */
public final class RefusedCallsTest {
    private static final int RUNS = 400;
    private static final int CALLS = 400;
    private static final String[] RULES = {"a:!a=a", "e:e=e+1", "af?a<f:!a=f-a,e=a", "e:f=1,f=2,f=3,f=4", "bcg:!c=b*g,b=1",
        "f:", "h:a=h,b=h", "ae?e>3:!a=1,e=e-1,h=2", "defg?g=g:d=1,d=2", "g?g<0:g=0-g", "c:d=c,d=c,!c=1", "d:"};
    private static final int[] ODD = {-1, 0, 1, 7, 8, 9, 31, 32, 33, 40, 100, 101, 126, 127, 9999, 10000, -9999, -10000,
        Integer.MIN_VALUE, Integer.MAX_VALUE};

    private static int wrong = 0;
    private static int refused = 0;

    private final Random random;
    private final Method[] methods;
    private final JoinRuntime tried = new JoinRuntime();
    private final JoinRuntime spared = new JoinRuntime();
    private final List<String> history = new ArrayList<>();
    private boolean differs = false;

    private RefusedCallsTest(int seed) {
        random = new Random(seed);
        methods = Arrays.stream(JoinRuntime.class.getDeclaredMethods())
            .filter(method -> Modifier.isPublic(method.getModifiers()))
            .sorted(Comparator.comparing(Method::getName)).toArray(Method[]::new);
    }

    public static void main(String[] args) throws ReflectiveOperationException {
        for (int seed = 0; seed < RUNS && wrong < 5; seed++) {
            RefusedCallsTest test = new RefusedCallsTest(seed);
            for (int i = 0; i < CALLS && !test.differs; i++) {
                test.step();
            }
            if (test.differs) {
                wrong++;
                System.out.println("seed " + seed + ": " + String.join("; ", test.history));
            }
        }
        System.out.println(wrong == 0 && refused > 0 ? "all answers are as due" : wrong + " runs are not as due");
        System.exit(wrong == 0 && refused > 0 ? 0 : 1);
    }

    private void step() throws ReflectiveOperationException {
        int kind = random.nextInt(10);
        if (kind == 0) {
            writeRule();
        } else if (kind < 4) {
            call("send", random.nextInt(8), random.nextInt(15) - 7);
        } else if (kind < 6) {
            call("fireRule", random.nextInt(8));
        } else if (kind == 6) {
            call(random.nextBoolean() ? "save" : "restore");
        } else {
            callAny();
        }
        compare("digest", tried.digest(), spared.digest());
    }

    private void writeRule() throws ReflectiveOperationException {
        call("clearBuffer");
        for (char c : RULES[random.nextInt(RULES.length)].toCharArray()) {
            call("append", (int) c);
        }
        call("addRule");
    }

    private void callAny() throws ReflectiveOperationException {
        Method method = methods[random.nextInt(methods.length)];
        Object[] arguments = new Object[method.getParameterCount()];
        for (int i = 0; i < arguments.length; i++) {
            arguments[i] = random.nextBoolean() ? random.nextInt(9) : ODD[random.nextInt(ODD.length)];
        }
        call(method.getName(), arguments);
    }

    private void compare(String call, Object got, Object due) {
        if (!got.equals(due)) {
            history.add(call + " answered " + got + ", without the refused calls " + due);
            differs = true;
        }
    }

    private void call(String name, Object... arguments) throws ReflectiveOperationException {
        Method method = Arrays.stream(methods).filter(m -> m.getName().equals(name)).findFirst().orElseThrow();
        String text = name + Arrays.toString(arguments);
        Object got;
        try {
            got = method.invoke(tried, arguments);
        } catch (InvocationTargetException e) {
            history.add(text + " throws " + e.getCause().getClass().getSimpleName());
            lookAt(method, e.getCause());
            refused++;
            return;
        }
        history.add(text + " = " + got);
        compare(text, got, method.invoke(spared, arguments));
    }

    /** An exception of the machine or of the library has another class or another origin. */
    private void lookAt(Method method, Throwable thrown) {
        boolean named = Arrays.asList(method.getExceptionTypes()).contains(thrown.getClass());
        boolean own = thrown.getStackTrace()[0].getClassName().startsWith("JoinRuntime");
        if (!named || !own) {
            history.add("which is not as due");
            differs = true;
        }
    }
}
