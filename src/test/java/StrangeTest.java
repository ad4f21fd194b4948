import java.lang.reflect.InvocationTargetException;
import java.lang.reflect.Method;
import java.lang.reflect.Modifier;
import java.util.ArrayList;
import java.util.Arrays;
import java.util.Comparator;
import java.util.List;

/**
 * Runs of 512 calls with arguments of every size. A call throws only what the document names for it, and throws
 * it by its own throw, never by the machine; one that throws leaves the house as it was; isTrue stays true.
 */
public final class StrangeTest {
    private static final int CALLS = 512;
    private static final int[] FAR = {
        Integer.MIN_VALUE, Integer.MIN_VALUE + 1, -65536, -11, -2, -1, 9, 10, 11, 19, 20, 21, 96, 107, 255, 256, 65535,
        1 << 30, Integer.MAX_VALUE - 1, Integer.MAX_VALUE};
    private static final char[] SIGNS = {'a', 'b', 'c', 'd', 'e', 'f', 'g', 'h', 'i', 'j', '>', '=', '>', '='};

    /** What the machine says of its own exceptions begins so, or it says nothing. */
    private static final String[] OF_MACHINE = {"/ by zero", "Index ", "Cannot ", "arraycopy", "Range "};

    private static long seed = 20261120L;
    private static int calls = 0;
    private static int wrong = 0;

    public static void main(String[] args) throws IllegalAccessException {
        List<Method> methods = new ArrayList<>();
        for (Method method : Mostwell.class.getDeclaredMethods()) {
            if (Modifier.isPublic(method.getModifiers())) {
                methods.add(method);
            }
        }
        // the machine tells methods in no fixed order, and each run of this test should make the same calls
        methods.sort(Comparator.comparing(Method::getName));
        int thrown = 0;
        for (int run = 0; run < 900; run++) {
            thrown += strangeRun(run, methods);
        }
        System.out.println(calls + " strange calls, " + thrown + " refused, " + wrong + " wrong");
        if (wrong != 0) {
            System.exit(1);
        }
    }

    private static int next(int bound) {
        seed = seed * 6364136223846793005L + 1442695040888963407L;
        return (int) ((seed >>> 33) % bound);
    }

    private static int strangeRun(int run, List<Method> methods) throws IllegalAccessException {
        Mostwell x = new Mostwell();
        int thrown = 0;
        int far = 2 + next(30);
        // a call and the checksums round it are three calls, and nothing is promised after the 512th one
        for (int made = 0; made + 3 <= CALLS; made += 3) {
            Method method = methods.get(next(methods.size()));
            Object[] arguments = arguments(method, far);
            long before = x.checksum();
            calls++;
            try {
                Object answer = method.invoke(x, arguments);
                if (method.getName().equals("isTrue") && !answer.equals(true)) {
                    report(run, method, arguments, "answered false");
                }
            } catch (InvocationTargetException e) {
                thrown++;
                checkThrown(run, method, arguments, e.getCause());
                if (x.checksum() != before) {
                    report(run, method, arguments, "changed the house that it refused to change");
                }
            }
        }
        return thrown;
    }

    private static Object[] arguments(Method method, int far) {
        Class<?>[] types = method.getParameterTypes();
        Object[] arguments = new Object[types.length];
        for (int i = 0; i < types.length; i++) {
            boolean strange = next(far) == 0;
            if (types[i] == char.class) {
                arguments[i] = strange ? (char) next(65536) : SIGNS[next(SIGNS.length)];
            } else {
                arguments[i] = strange ? FAR[next(FAR.length)] : next(5);
            }
        }
        return arguments;
    }

    private static void checkThrown(int run, Method method, Object[] arguments, Throwable thrown) {
        if (!Arrays.asList(method.getExceptionTypes()).contains(thrown.getClass())) {
            report(run, method, arguments, "threw " + thrown);
        }
        String message = thrown.getMessage() == null ? OF_MACHINE[0] : thrown.getMessage();
        for (String begin : OF_MACHINE) {
            if (message.startsWith(begin)) {
                report(run, method, arguments, "was thrown out of by the machine: " + thrown);
            }
        }
    }

    private static void report(int run, Method method, Object[] arguments, String what) {
        wrong++;
        if (wrong <= 20) {
            System.out.println("run " + run + ": " + method.getName() + Arrays.toString(arguments) + " " + what);
        }
    }
}
