import java.lang.reflect.InvocationTargetException;
import java.lang.reflect.Method;
import java.lang.reflect.Modifier;
import java.util.ArrayList;
import java.util.Arrays;
import java.util.HashMap;
import java.util.HashSet;
import java.util.List;
import java.util.Map;
import java.util.Set;

/**
 * All promises together: long runs of all calls, by draws, each answered by SpringOaths as by the Twin, which is
 * written from the document once more.
 */
public final class TwinTest {
    private static final int RUNS = 300;
    private static final int TEXTS = 1000;
    private static final int CALLS = 430;
    private static final int CALLS_PROMISED = 512;
    private static final int WHO = -101;
    private static final int WHERE = -102;
    private static final int ROW = -103;

    /** What each call takes: a least and a most for each number, or a mark. */
    private static final Map<String, int[]> TAKES = new HashMap<>();

    static {
        TAKES.put("moor", new int[] {});
        TAKES.put("set", new int[] {0, 3, 0, 9});
        TAKES.put("lawOf", new int[] {0, 3});
        TAKES.put("person", new int[] {0, 5, 0, 9, 0, 99, WHERE, 0});
        TAKES.put("of", new int[] {WHO, 0, 0, 7});
        TAKES.put("loses", new int[] {WHO, 0});
        TAKES.put("mind", new int[] {WHO, 0, 0, 5, 0, 9});
        TAKES.put("sure", new int[] {WHO, 0, 0, 99});
        TAKES.put("bring", new int[] {WHO, 0, WHERE, 0});
        TAKES.put("cell", new int[] {WHERE, 0, 0, 4});
        TAKES.put("lowest", new int[] {WHERE, 0});
        TAKES.put("water", new int[] {WHERE, 0, 0, 99});
        TAKES.put("height", new int[] {WHERE, 0, 0, 9});
        TAKES.put("wets", new int[] {0, 2});
        TAKES.put("years", new int[] {1, 2});
        TAKES.put("seed", new int[] {-100000, 100000});
        TAKES.put("year", new int[] {});
        TAKES.put("revel", new int[] {1, 30});
        TAKES.put("state", new int[] {0, 4});
        TAKES.put("level", new int[] {WHERE, 0, 0, 60});
        TAKES.put("damp", new int[] {WHERE, 0});
        TAKES.put("loss", new int[] {WHO, 0});
        TAKES.put("drowned", new int[] {});
        TAKES.put("whereFor", new int[] {WHO, 0, WHERE, 0, 1, 20});
        TAKES.put("kindFor", new int[] {WHO, 0, WHERE, 0, 1, 20});
        TAKES.put("annoyed", new int[] {WHO, 0, WHERE, 0, 1, 20});
        TAKES.put("needed", new int[] {WHERE, 0, 1, 20});
        TAKES.put("fewest", new int[] {WHERE, 0, 1, 20});
        TAKES.put("ends", new int[] {WHERE, 0});
        TAKES.put("fits", new int[] {0, 3, WHERE, 0, WHO, 0, 0, 1});
        TAKES.put("odds", new int[] {0, 8, 0, 8, 0, 1});
        TAKES.put("hope", new int[] {0, 99, 0, 1});
        TAKES.put("prove", new int[] {WHO, 0, 1, 10});
        TAKES.put("row", new int[] {ROW, 0, 0, 2});
        TAKES.put("alterRow", new int[] {ROW, 0, 0, 2, 0, 99});
        TAKES.put("judge", new int[] {WHO, 0});
        TAKES.put("minds", new int[] {0, 3, 0, 6, WHO, 0, 0, 4});
        TAKES.put("sheet", new int[] {0, 3, -1, 3, 0, 8});
        TAKES.put("put", new int[] {0, 3, 0, 7, -200, 200});
        TAKES.put("item", new int[] {0, 3, 0, 3, 0, 7});
        TAKES.put("shelf", new int[] {0, 3, 0, 2, 0, 4});
        TAKES.put("taken", new int[] {0, 3, 0, 13});
        TAKES.put("act", new int[] {0, 3, 0, 3, -1000, 1000});
        TAKES.put("trace", new int[] {0, 11});
        TAKES.put("many", new int[] {0, 6});
        TAKES.put("keep", new int[] {});
        TAKES.put("again", new int[] {});
    }

    /** Those that take most away, and those that take longest, are asked less often. */
    private static final Set<String> SELDOM =
        Set.of("moor", "again", "fewest", "whereFor", "seed", "years");

    private static final int[] WILD = {-1, -2, 32, 33, 8, 60, 61, 100, 50, 51, 40, 41, 31, 256, 32768, 1 << 30,
        Integer.MAX_VALUE, Integer.MIN_VALUE, Integer.MIN_VALUE + 1, -11, -3};

    private static int drawn = 7;

    private final SpringOaths x = new SpringOaths();
    private final Twin twin = new Twin();
    private final List<String> told = new ArrayList<>();
    private final int corner = draw(3) * 8 + draw(7);
    private final List<String> calls;
    private boolean same = true;

    private TwinTest(List<String> calls) {
        this.calls = calls;
    }

    public static void main(String[] args) throws ReflectiveOperationException {
        List<String> calls = new ArrayList<>();
        for (Method method : SpringOaths.class.getDeclaredMethods()) {
            if (Modifier.isPublic(method.getModifiers()) && !method.getName().equals("feed")) {
                calls.add(method.getName());
            }
        }
        calls.sort(null);
        Check.holds("all calls are known", TAKES.keySet().equals(new HashSet<>(calls)));
        for (int run = 0; run < RUNS; run++) {
            new TwinTest(calls).run();
        }
        for (int i = 0; i < TEXTS; i++) {
            new TwinTest(calls).texts();
        }
        Check.end("TwinTest");
    }

    private static int draw(int below) {
        drawn = drawn * 1103515245 + 12345;
        return (drawn >>> 16) % below;
    }

    private void run() throws ReflectiveOperationException {
        settle();
        while (told.size() < CALLS && same) {
            some();
        }
        Check.holds("no more calls than are promised", told.size() <= CALLS_PROMISED);
    }

    private void texts() throws ReflectiveOperationException {
        text();
        for (int what = 0; what < 6; what++) {
            call("many", what);
        }
        for (int what = 0; what < 5; what++) {
            call("state", what);
        }
        for (int law = 0; law < 4; law++) {
            call("lawOf", law);
        }
        for (int cell = 0; cell < 32; cell++) {
            call("cell", cell, 0);
            call("cell", cell, 1);
        }
        for (int person = 0; person < twin.many(0); person++) {
            for (int what = 0; what < 4; what++) {
                call("of", person, what);
            }
        }
    }

    /** Heights and people, some LAWS, some rows, so that there is much to ask. */
    private void settle() throws ReflectiveOperationException {
        for (int i = 0; i < 12; i++) {
            call("height", where(), draw(10));
        }
        int people = draw(9);
        for (int i = 0; i < people; i++) {
            call("person", draw(6), draw(10), draw(100), where());
        }
        call("set", 2, draw(51));
        call("set", 3, draw(100));
        for (int i = 0; i < 4; i++) {
            call("sheet", i, draw(4), draw(9));
            call("shelf", i, draw(3), i);
        }
    }

    private void some() throws ReflectiveOperationException {
        int choice = draw(60);
        if (choice == 0) {
            if (draw(4) == 0) {
                text();
            }
        } else if (choice == 1) {
            fits();
        } else if (choice == 2) {
            act();
        } else if (choice == 3) {
            rows();
        } else if (choice < 6) {
            items();
        } else {
            String name = calls.get(draw(calls.size()));
            if (!SELDOM.contains(name) || draw(name.equals("moor") ? 40 : 4) == 0) {
                call(name, numbers(TAKES.get(name)));
            }
        }
    }

    private int[] numbers(int[] takes) {
        int[] numbers = new int[takes.length / 2];
        for (int i = 0; i < numbers.length; i++) {
            numbers[i] = number(takes[2 * i], takes[2 * i + 1]);
        }
        return numbers;
    }

    private int number(int least, int most) {
        if (draw(40) == 0) {
            return WILD[draw(WILD.length)];
        }
        switch (least) {
            case WHO: return draw(Math.max(1, twin.many(0)));
            case WHERE: return where();
            case ROW: return draw(twin.many(4) + 1);
            default: return least + draw(most - least + 1);
        }
    }

    /** Mostly one of four cells that lie together, so that people meet. */
    private int where() {
        return draw(4) == 0 ? draw(32) : corner + draw(2) * 8 + draw(2);
    }

    private void text() throws ReflectiveOperationException {
        String text = Texts.drawn(TwinTest::draw);
        for (int from = 0; from < text.length(); from += 8) {
            int n = Math.min(8, text.length() - from);
            long eight = draw(2) == 0 ? 0 : -1L << 8 * n % 64;
            for (int i = n - 1; i >= 0; i--) {
                eight = eight << 8 | text.charAt(from + i) & 255;
            }
            feed(eight, n);
        }
        if (draw(8) > 0) {
            call("moor");
            call("many", 0);
            if (twin.many(0) == 0) {
                settle();
            }
        }
    }

    private void feed(long eight, int n) {
        told.add("feed(" + eight + ", " + n + ")");
        same(x.feed(eight, n), twin.feed(eight, n));
    }

    /** A SHEET of what WATER will be, or nearly so. */
    private void fits() throws ReflectiveOperationException {
        int cell = where();
        int sheet = draw(4);
        int n = draw(5);
        call("sheet", sheet, draw(4), n);
        for (int i = 0; i < n; i++) {
            call("put", sheet, i, draw(4) == 0 ? -1 : twin.level(cell, i + 1) + draw(12) / 11);
        }
        for (int what = 0; what < 2; what++) {
            call("fits", sheet, cell, draw(Math.max(1, twin.many(0))), what);
        }
    }

    private void act() throws ReflectiveOperationException {
        int shelf = draw(4);
        call("shelf", shelf, 0, draw(Math.max(1, twin.many(0))));
        call("act", shelf, draw(4), draw(3) == 0 ? draw(65536) * 65521 : draw(100) - 50);
        call("many", 6);
        int bodies = twin.many(6);
        for (int i = 0; i <= bodies; i++) {
            call("trace", i);
        }
    }

    /** Of a SHEET of a told sort, so that few are refused for another one. */
    private void items() throws ReflectiveOperationException {
        int sheet = draw(4);
        int sort = draw(3) == 0 ? draw(4) : 0;
        int n = 1 + draw(9);
        call("sheet", sheet, sort, n);
        for (int i = 0; i < n; i++) {
            call("put", sheet, i, draw(2) == 0 ? draw(100) : draw(65536) * 65521);
            call("item", sheet, sort, i);
        }
        call("minds", sheet, draw(n + 2), draw(Math.max(1, twin.many(0))), draw(4));
        call("shelf", draw(4), 1, sheet);
        for (int shelf = 0; shelf < 4; shelf++) {
            call("taken", shelf, draw(2) == 0 ? 10 + sort : draw(6));
        }
    }

    private void rows() throws ReflectiveOperationException {
        int one = draw(Math.max(1, twin.many(0)));
        call("prove", one, 1 + draw(3));
        call("judge", draw(Math.max(1, twin.many(0))));
        int rows = twin.many(4);
        if (draw(2) == 0) {
            int i = draw(rows + 1);
            int what = draw(3);
            call("alterRow", i, what, twin.row(i, what) + draw(3) / 2);
        }
        call("judge", one);
    }

    private void call(String name, int... numbers) throws ReflectiveOperationException {
        told.add(name + Arrays.toString(numbers));
        same(answer(x, name, numbers), answer(twin, name, numbers));
    }

    private long answer(Object of, String name, int[] numbers) throws ReflectiveOperationException {
        Class<?>[] types = new Class<?>[numbers.length];
        Arrays.fill(types, int.class);
        Method method = of.getClass().getMethod(name, types);
        method.setAccessible(true);
        try {
            return ((Number) method.invoke(of, Arrays.stream(numbers).boxed().toArray())).longValue();
        } catch (InvocationTargetException thrown) {
            throw new IllegalStateException("after " + told, thrown);
        }
    }

    private void same(long got, long want) {
        Check.due(told.get(told.size() - 1), got, want);
        if (got != want && same) {
            same = false;
            System.out.println("behind " + told);
        }
    }
}
