import java.lang.reflect.InvocationTargetException;
import java.lang.reflect.Method;
import java.lang.reflect.Modifier;
import java.util.Arrays;
import java.util.function.Supplier;

/**
 * Rule 7 of LANGUAGE.md: no call throws by itself, for any arguments in any state. A full object needs
 * 1000 calls, and what is answered after 512 is free, so answers are not looked at here: only that an
 * exception is of a class that the call names, and not of one below it, as the machine's own are.
 */
public final class EveryStateTest {
    private static final Object[] INTS = {Integer.MIN_VALUE, -1000000, -1, 0, 1, 2, 3, 4, 15, 16, 23, 24,
        39, 40, 960, 10000, 1000000, 10000000, Integer.MAX_VALUE};
    private static final Object[] LONGS = {Long.MIN_VALUE, -1000000000000L, -1L, 0L, 1L, 6400000000L,
        1000000000000L, Long.MAX_VALUE};
    private static final Object[] BOOLEANS = {false, true};

    private static int calls = 0;

    public static void main(String[] args) {
        inState("new", () -> new RatePasses(16));
        inState("full", EveryStateTest::full);
        inState("full and shared", () -> {
            RatePasses x = full();
            x.run();
            return x;
        });
        inState("full, shared and cleared", () -> {
            RatePasses x = full();
            x.run();
            x.clear();
            return x;
        });
        if (calls < 30000) {
            Check.say("only " + calls + " calls were made");
        }
        Check.end();
    }

    /** 40 blocks of 24 passes, all of them on the hull, with the greatest sums. */
    private static RatePasses full() {
        RatePasses x = new RatePasses(16);
        for (int block = 0; block < 40; block++) {
            x.block();
            x.weight(block, 100);
            x.shift(block, 3);
            for (int pass = 0; pass < 24; pass++) {
                x.pass(block, 10000, 1000000 - pass);
            }
        }
        for (int layer = 0; layer < 16; layer++) {
            x.size(layer, 600000 + layer);
            x.head(layer, layer % 3 * 300001);
        }
        return x;
    }

    private static void inState(String state, Supplier<RatePasses> maker) {
        for (Method method : RatePasses.class.getDeclaredMethods()) {
            if (Modifier.isPublic(method.getModifiers())) {
                callWithAll(state, maker.get(), method, new Object[method.getParameterCount()], 0);
            }
        }
    }

    private static void callWithAll(String state, RatePasses x, Method method, Object[] arguments, int known) {
        if (known == arguments.length) {
            call(state, x, method, arguments);
            return;
        }
        for (Object value : valuesOf(method.getParameterTypes()[known])) {
            arguments[known] = value;
            callWithAll(state, x, method, arguments, known + 1);
        }
    }

    private static Object[] valuesOf(Class<?> type) {
        return type == int.class ? INTS : type == long.class ? LONGS : BOOLEANS;
    }

    private static void call(String state, RatePasses x, Method method, Object[] arguments) {
        calls++;
        try {
            method.invoke(x, arguments);
        } catch (InvocationTargetException e) {
            Class<?> thrown = e.getCause().getClass();
            if (!Arrays.asList(method.getExceptionTypes()).contains(thrown)) {
                Check.say(state + ": " + method.getName() + Arrays.toString(arguments) + " threw " + thrown.getName());
            }
        } catch (IllegalAccessException e) {
            Check.say(method.getName() + " can not be called");
        }
    }
}
