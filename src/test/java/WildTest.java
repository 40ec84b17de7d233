import java.lang.reflect.InvocationTargetException;
import java.lang.reflect.Method;
import java.lang.reflect.Modifier;
import java.util.Arrays;
import java.util.Comparator;
import java.util.Set;

/** Every call with any numbers in many states: none throws, and a refused one changes nothing. */
public final class WildTest {
    private static final int[] WILD = {0, 1, 2, 3, 4, 5, 6, 7, 8, 9, 10, 11, 13, 20, 30, 31, 32, 33, 39, 40, 41, 50,
        60, 61, 99, 100, 200, -1, -2, -15, Integer.MAX_VALUE, Integer.MAX_VALUE - 1, Integer.MIN_VALUE,
        Integer.MIN_VALUE + 1, 1 << 30, 0x55555555};

    /** What these answer may be below 0 without being a refusal. */
    private static final Set<String> FREE = Set.of("seed", "item", "row", "alterRow", "act", "trace");

    private static final String[] TEXTS = {"sworn at 3;", "height 3 is 9;", "water 3 is 9", "bog", "drink 100;", "",
        "dowser at 7 sure 3 sense 9;expert at 7;", "9", "\u00ff", "sworn at 99999999999999999999999999;"};

    private static int drawn = 3;

    public static void main(String[] args) throws IllegalAccessException {
        Method[] calls = Arrays.stream(SpringOaths.class.getDeclaredMethods())
            .filter(method -> Modifier.isPublic(method.getModifiers()))
            .sorted(Comparator.comparing(Method::getName))
            .toArray(Method[]::new);
        for (int run = 0; run < 60; run++) {
            SpringOaths x = new SpringOaths();
            for (int i = 0; i < 512; i++) {
                call(x, calls[draw(calls.length)], draw(2) == 0);
                settle(x);
            }
        }
        Check.end("WildTest");
    }

    private static int draw(int below) {
        drawn = drawn * 1103515245 + 12345;
        return (drawn >>> 16) % below;
    }

    private static void call(SpringOaths x, Method method, boolean wild) throws IllegalAccessException {
        Object[] values = new Object[method.getParameterCount()];
        for (int i = 0; i < values.length; i++) {
            int v = wild ? WILD[draw(WILD.length)] : draw(10);
            if (method.getParameterTypes()[i] == long.class) {
                values[i] = (long) v * 0x123456789L;
            } else {
                values[i] = v;
            }
        }
        String name = method.getName() + Arrays.toString(values);
        int[] before = seen(x);
        try {
            long answer = ((Number) method.invoke(x, values)).longValue();
            if (answer < 0 && !FREE.contains(method.getName())) {
                int[] after = seen(x);
                if (method.getName().equals("moor")) {
                    before[0] = 0;
                }
                Check.holds("a refused " + name + " changes nothing", Arrays.equals(before, after));
            } else {
                Check.holds(name + " answers", true);
            }
        } catch (InvocationTargetException thrown) {
            Check.holds(name + " does not throw " + thrown.getCause(), false);
        }
    }

    /** Keeps something there to be asked about. */
    private static void settle(SpringOaths x) {
        int choice = draw(40);
        if (choice == 0) {
            Check.feed(x, TEXTS[draw(TEXTS.length)]);
        } else if (choice == 1) {
            x.prove(0, 1 + draw(10));
        } else if (choice < 5) {
            x.person(draw(6), draw(10), draw(100), draw(32));
        } else if (choice < 8) {
            x.sheet(draw(4), draw(4), draw(41));
        } else if (choice < 10) {
            x.shelf(draw(4), draw(2), draw(4));
        }
    }

    private static int[] seen(SpringOaths x) {
        int[] seen = new int[800];
        int n = 0;
        seen[n++] = x.many(5);
        seen[n++] = x.seed(0);
        x.seed(seen[1]);
        for (int what = 0; what < 7; what++) {
            seen[n++] = what == 5 ? 0 : x.many(what);
        }
        for (int what = 0; what < 5; what++) {
            seen[n++] = x.state(what);
        }
        for (int i = 0; i < 4; i++) {
            seen[n++] = x.lawOf(i);
            for (int as = 0; as < 14; as++) {
                seen[n++] = x.taken(i, as);
            }
            for (int k = 0; k < 41; k++) {
                for (int sort = 0; sort < 4; sort++) {
                    seen[700 + i] = seen[700 + i] * 31 + x.item(i, sort, k);
                }
            }
        }
        for (int person = 0; person < 8; person++) {
            for (int what = 0; what < 8; what++) {
                seen[n++] = x.of(person, what);
            }
        }
        for (int cell = 0; cell < 32; cell++) {
            seen[n++] = x.cell(cell, 0);
            seen[n++] = x.cell(cell, 1);
            seen[n++] = x.lowest(cell);
        }
        for (int i = 0; i < 30; i++) {
            seen[n++] = x.row(i, i % 3);
            seen[n++] = x.row(i / 3, i % 3);
            seen[n++] = x.trace(i);
        }
        return seen;
    }
}
