import java.lang.reflect.InvocationTargetException;
import java.lang.reflect.Method;
import java.util.Arrays;
import java.util.Comparator;

/**
 * What the tests share: checks that count, and a run of all test methods of a class. Public because
 * the examples of README.md, which another loader loads, are checked by it too.
 */
public final class Checks {
    private static int checks = 0;
    private static int wrong = 0;

    private Checks() {
    }

    /** A call that answers a number, and may throw. */
    public interface Call {
        long answer();
    }

    public static void due(String call, long got, long want) {
        checks++;
        if (got != want) {
            tell(call + " answered " + got + ", due is " + want);
        }
    }

    public static void due(String call, boolean got, boolean want) {
        due(call, got ? 1 : 0, want ? 1 : 0);
    }

    public static void dueDouble(String call, double got, double want) {
        checks++;
        if (got != want) {
            tell(call + " answered " + got + ", due is " + want);
        }
    }

    public static void dueThrow(String call, Class<? extends RuntimeException> want, Call called) {
        checks++;
        try {
            tell(call + " answered " + called.answer() + ", due is " + want.getSimpleName());
        } catch (RuntimeException thrown) {
            if (thrown.getClass() != want) {
                tell(call + " threw " + thrown + ", due is " + want.getSimpleName());
            }
        }
    }

    static void tell(String text) {
        wrong++;
        StackTraceElement[] trace = new Throwable().getStackTrace();
        for (StackTraceElement place : trace) {
            String name = place.getClassName();
            if (!name.startsWith("Checks") && !name.startsWith("Bounds$")
                    && !name.equals("Bounds")) {
                System.out.println("  " + place.getClassName() + "." + place.getMethodName()
                    + " line " + place.getLineNumber() + ": " + text);
                return;
            }
        }
        System.out.println("  " + text);
    }

    static boolean isTest(Method method) {
        return method.getName().startsWith("promise") || method.isAnnotationPresent(Says.class);
    }

    /** Runs all test methods of the class, and ends with 1 if one fails or checks nothing. */
    static void runAll(Class<?> tests) throws IllegalAccessException {
        Method[] methods = tests.getDeclaredMethods();
        Arrays.sort(methods, Comparator.comparing(Method::getName));
        int run = 0;
        for (Method method : methods) {
            if (isTest(method)) {
                run++;
                int before = checks;
                try {
                    method.invoke(null);
                } catch (InvocationTargetException thrown) {
                    tell(method.getName() + " threw " + thrown.getCause());
                    thrown.getCause().printStackTrace(System.out);
                }
                if (checks == before) {
                    tell(method.getName() + " checked nothing");
                }
            }
        }
        if (run == 0) {
            tell("no test method in " + tests.getName());
        }
        System.out.println(tests.getName() + ": " + run + " tests, " + checks + " checks, "
            + wrong + " wrong");
        if (wrong != 0) {
            System.exit(1);
        }
    }
}
