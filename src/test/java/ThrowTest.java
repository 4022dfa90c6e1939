import java.lang.reflect.InvocationTargetException;
import java.lang.reflect.Method;
import java.lang.reflect.Modifier;
import java.util.NoSuchElementException;

/** Rule 7 of LANGUAGE.md: no call throws, whatever its arguments and the state; led alone, as the document says. */
public final class ThrowTest {
    private static final long[] EXTREMES = {Integer.MIN_VALUE, -1000, -2, -1, 0, 1, 2, 5, 6, 11, 12, 22, 23, 24, 31, 32,
        39, 40, 63, 64, 99, 100, 399, 400, 900, 901, 4999, 5000, 19999, 20000, 20001, Integer.MAX_VALUE - 1,
        Integer.MAX_VALUE};
    private static final String[] STATES = {
        null, "", Edge.ONE, Edge.PAIR, Edge.NEVER, Edge.SPANLESS, Edge.FULL, Edge.OVER, Edge.OVER_NEVER, Edge.MOST,
        "law hours 24 beside 9 off 3;person a bed 23 to 23 long 12 to 12 habit 0 nap 0 to 24 away;sexton a"
            + Edge.struckIn(24, 99) + ";told a 23 to 24;offer a 23 to 24;born 23",
        "law hours 1 beside 0 off 0" + Edge.forty("ab") + ";apart b,a;sexton b;struck 0 is 0;struck 23 is 9;born 23",
    };

    private static StrikeAwake x;
    private static int calls = 0;

    private ThrowTest() {
    }

    /** An object is used for 512 calls at most: then another takes its place. */
    private static void begin(String state) {
        x = new StrikeAwake();
        calls = 50;
        if (state != null) {
            Texts.parish(x, state);
        }
    }

    private static void call(String state, Method method, Object... arguments) throws IllegalAccessException {
        if (calls++ > 505) {
            begin(state);
        }
        String label = method.getName() + java.util.Arrays.toString(arguments) + " of " + state;
        try {
            method.invoke(x, arguments);
            Due.is(label, 0, 0);
        } catch (InvocationTargetException e) {
            boolean isDue = method.getName().equals("led") && e.getCause().getClass() == NoSuchElementException.class;
            Due.is(label + " threw " + e.getCause(), true, isDue);
        }
    }

    private static Object fit(Class<?> type, long number) {
        if (type == boolean.class) {
            return number % 2 == 0;
        }
        if (type == long.class) {
            return number == Integer.MIN_VALUE ? Long.MIN_VALUE : number == Integer.MAX_VALUE ? Long.MAX_VALUE
                    : number * 1_000_003;
        }
        return (int) number;
    }

    private static void callAll(String state, Method method) throws IllegalAccessException {
        Class<?>[] types = method.getParameterTypes();
        Object[] arguments = new Object[types.length];
        if (types.length == 0) {
            call(state, method);
            return;
        }
        // each argument with each extreme, the others all alike
        for (int which = 0; which < types.length; which++) {
            for (long others : new long[] {0, 1, -1, Integer.MAX_VALUE}) {
                for (long number : EXTREMES) {
                    for (int k = 0; k < types.length; k++) {
                        arguments[k] = fit(types[k], k == which ? number : others);
                    }
                    call(state, method, arguments.clone());
                }
            }
        }
    }

    public static void main(String[] args) throws Exception {
        for (String state : STATES) {
            begin(state);
            for (Method method : StrikeAwake.class.getDeclaredMethods()) {
                // parish alone would put another state in this one's place
                if (Modifier.isPublic(method.getModifiers()) && !method.getName().equals("parish")) {
                    callAll(state, method);
                }
            }
            for (int n : new int[] {Integer.MIN_VALUE, -1, 0, 1, 899, 900, 901, Integer.MAX_VALUE}) {
                for (int feeds : new int[] {0, 1, 44, 45, 46}) {
                    begin(state);
                    for (int k = 0; k < feeds; k++) {
                        x.feed(0x20202061, 0x7B60FF00, Integer.MIN_VALUE, 0x2C3B302C, -1);
                    }
                    call(state, StrikeAwake.class.getDeclaredMethod("parish", int.class), n);
                }
            }
        }
        Due.end("ThrowTest");
    }
}
