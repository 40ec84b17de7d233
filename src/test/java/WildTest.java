import java.lang.reflect.InvocationTargetException;
import java.lang.reflect.Method;
import java.lang.reflect.Modifier;
import java.util.ArrayList;
import java.util.Arrays;
import java.util.Comparator;
import java.util.List;
import java.util.Set;

/**
 * Every call with any numbers in many states: none throws, and those that are refused change nothing: an object
 * that is never asked them is the same in the end.
 */
public final class WildTest {
    private static final int[] WILD = {0, 1, 2, 3, 4, 5, 6, 7, 8, 9, 10, 11, 13, 20, 30, 31, 32, 33, 39, 40, 41, 50,
        60, 61, 99, 100, 200, -1, -2, -15, Integer.MAX_VALUE, Integer.MAX_VALUE - 1, Integer.MIN_VALUE,
        Integer.MIN_VALUE + 1, 1 << 30, 0x55555555};

    /** Below 0, these may not be refused, or what is refused changes something: the TAPE, THE TRACE. */
    private static final Set<String> FREE = Set.of("seed", "item", "row", "alterRow", "act", "trace", "moor");

    private static final String[] TEXTS = {"sworn at 3;", "height 3 is 9;", "water 3 is 9", "bog", "drink 100;", "",
        "dowser at 7 sure 3 sense 9;expert at 7;", "9", "\u00ff", "sworn at 99999999999999999999999999;"};

    private static int drawn = 3;

    public static void main(String[] args) throws IllegalAccessException {
        Method[] calls = Arrays.stream(SpringOaths.class.getDeclaredMethods())
            .filter(method -> Modifier.isPublic(method.getModifiers()))
            .sorted(Comparator.comparing(Method::getName))
            .toArray(Method[]::new);
        for (int run = 0; run < 3000; run++) {
            run(calls);
        }
        Check.end("WildTest");
    }

    private static int draw(int below) {
        drawn = drawn * 1103515245 + 12345;
        return (drawn >>> 16) % below;
    }

    private static void run(Method[] calls) throws IllegalAccessException {
        SpringOaths asked = new SpringOaths();
        SpringOaths spared = new SpringOaths();
        List<String> refused = new ArrayList<>();
        for (int i = 0; i < 40; i++) {
            settle(asked, spared);
            Method method = calls[draw(calls.length)];
            Object[] values = numbers(method, draw(2) == 0);
            String name = method.getName() + Arrays.toString(values);
            long answer = call(asked, method, values, name);
            if (answer < 0 && !FREE.contains(method.getName())) {
                refused.add(name);
            } else {
                Check.due(name, call(spared, method, values, name), answer);
            }
        }
        Check.holds("nothing is changed by any of " + refused, Seen.all(asked).equals(Seen.all(spared)));
    }

    private static Object[] numbers(Method method, boolean wild) {
        Object[] values = new Object[method.getParameterCount()];
        for (int i = 0; i < values.length; i++) {
            int v = wild ? WILD[draw(WILD.length)] : draw(10);
            values[i] = method.getParameterTypes()[i] == long.class ? (Object) (v * 0x123456789L) : (Object) v;
        }
        return values;
    }

    private static long call(SpringOaths x, Method method, Object[] values, String name) throws IllegalAccessException {
        try {
            return ((Number) method.invoke(x, values)).longValue();
        } catch (InvocationTargetException thrown) {
            Check.holds(name + " does not throw " + thrown.getCause(), false);
            return 0;
        }
    }

    /** Keeps something there to be asked about. */
    private static void settle(SpringOaths one, SpringOaths other) {
        int choice = draw(16);
        int a = draw(4);
        int b = draw(4);
        int c = draw(16);
        int d = draw(100);
        for (SpringOaths x : List.of(one, other)) {
            if (choice == 0) {
                Check.feed(x, TEXTS[d % TEXTS.length]);
            } else if (choice == 1) {
                x.prove(0, 1 + d % 10);
            } else if (choice < 6) {
                x.person(c % 6, c % 10, d, d % 32);
            } else if (choice < 8) {
                x.sheet(a, b, c);
            } else if (choice < 10) {
                x.shelf(a, d % 2, b);
            }
        }
    }
}
