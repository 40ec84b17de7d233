import java.io.IOException;
import java.lang.reflect.Method;
import java.lang.reflect.Modifier;
import java.nio.charset.StandardCharsets;
import java.nio.file.Files;
import java.nio.file.Path;
import java.util.ArrayList;
import java.util.Arrays;
import java.util.List;
import java.util.Set;
import java.util.TreeSet;
import java.util.regex.Matcher;
import java.util.regex.Pattern;
import java.util.stream.Stream;

/** What README.md says of calls, of their answers and of the tests is so. */
public final class ReadmeTest {
    private static final Path PAGE = Path.of("README.md");
    private static final Path DOCUMENT = Path.of("../shared/DOC.md");
    private static final Path TESTS = Path.of("src/test/java");
    private static final int PROMISES = 49;

    private static String page;

    public static void main(String[] args) throws IOException, ReflectiveOperationException {
        page = Files.readString(PAGE, StandardCharsets.UTF_8);
        example();
        text();
        atFirst();
        calls();
        ranges();
        refusals();
        belowZeroAndNoRefusal();
        tests();
        Check.end("ReadmeTest");
    }

    private static List<String[]> found(String pattern, String text) {
        List<String[]> all = new ArrayList<>();
        Matcher matcher = Pattern.compile(pattern, Pattern.MULTILINE).matcher(text);
        while (matcher.find()) {
            String[] groups = new String[matcher.groupCount()];
            for (int i = 0; i < groups.length; i++) {
                groups[i] = matcher.group(i + 1);
            }
            all.add(groups);
        }
        return all;
    }

    private static long ask(SpringOaths x, String name, long[] numbers) throws ReflectiveOperationException {
        Method method = Arrays.stream(SpringOaths.class.getDeclaredMethods())
            .filter(one -> Modifier.isPublic(one.getModifiers()) && one.getName().equals(name))
            .findFirst().orElseThrow();
        Object[] values = new Object[numbers.length];
        for (int i = 0; i < values.length; i++) {
            boolean isLong = method.getParameterTypes()[i] == long.class;
            values[i] = isLong ? (Object) numbers[i] : (Object) (int) numbers[i];
        }
        return ((Number) method.invoke(x, values)).longValue();
    }

    private static void example() throws ReflectiveOperationException {
        List<String[]> lines = found("^moor\\.(\\w+)\\(([^)]*)\\); +// (-?\\d+)", page);
        Check.holds("the example has its lines", lines.size() == 11);
        SpringOaths x = new SpringOaths();
        for (String[] line : lines) {
            long[] numbers = Stream.of(line[1].split(", ")).mapToLong(Long::parseLong).toArray();
            Check.due(line[0] + "(" + line[1] + ")", ask(x, line[0], numbers), Long.parseLong(line[2]));
        }
    }

    private static void text() {
        List<String[]> texts = found("(?s)```text\n(.*?)\n```", page);
        Check.due("texts", texts.size(), 1);
        SpringOaths x = new SpringOaths();
        String told = texts.get(0)[0];
        Check.due("moor()", Check.moor(x, told.replace('\n', ' ')), 2);
        int[] answers = {x.of(0, 0), x.of(0, 1), x.of(0, 2), x.of(0, 3), x.of(1, 0), x.cell(10, 1), x.cell(9, 0), x.lawOf(2)};
        Check.holds("all is as told", Arrays.equals(answers, new int[] {1, 7, 80, 9, 2, 2, 3, 8}));
        Check.due("DRINK", x.lawOf(3), 25);
        Check.due("a line's end can't stand there", Check.moor(x, told), -100 - told.indexOf('\n'));
    }

    private static void atFirst() {
        SpringOaths x = new SpringOaths();
        Matcher told = Pattern.compile("HEIGHT (\\d+) and no WATER, the LAWS are SPRING (\\d+), SEEP (\\d+), BOG (\\d+), "
            + "DRINK (\\d+),\\s+YEAR is (\\d+) and z is (\\d+)").matcher(page);
        Check.holds("how all is at first is told", told.find());
        int[] answers = {x.cell(31, 1), x.lawOf(0), x.lawOf(1), x.lawOf(2), x.lawOf(3), x.state(0), x.seed(0)};
        for (int i = 0; i < answers.length; i++) {
            Check.due("number " + i + " of those at first", answers[i], Integer.parseInt(told.group(i + 1)));
        }
        for (int what : new int[] {0, 1, 2, 4, 5, 6}) {
            Check.due("many(" + what + ")", x.many(what), 0);
        }
        Check.due("no WATER", x.state(1), 0);
        for (int i = 0; i < 4; i++) {
            Check.due("item", x.item(i, 0, 0), -11);
            Check.due("taken", x.taken(i, 0), -11);
        }
        Check.due("again()", x.again(), SpringOaths.NONE);
    }

    /** The table has each call of the document's face once, in its order, by its names, and no other. */
    private static void calls() throws IOException {
        String document = Files.readString(DOCUMENT, StandardCharsets.UTF_8);
        List<String> due = new ArrayList<>();
        for (String[] call : found("public (?:int|long) (\\w+)\\(([^)]*)\\);", document)) {
            due.add(call[0] + "(" + call[1].replaceAll("(int|long) ", "") + ")");
        }
        List<String> told = new ArrayList<>();
        for (String[] call : found("^\\| `(\\w+\\([^)]*\\))` \\|", page)) {
            told.add(call[0]);
        }
        Check.holds("the calls: " + told + " against " + due, told.equals(due));
    }

    /** "n .. (1 to 60)": the least and the most are taken, and what is beside them is BAD. */
    private static void ranges() throws ReflectiveOperationException {
        List<String[]> told = found("^\\| `(\\w+)\\(([^)]*)\\)` \\|[^|]*\\bn\\b[^(|]*\\((\\d+) to (\\d+)\\)", page);
        Check.due("ranges", told.size(), 10);
        for (String[] call : told) {
            List<String> names = List.of(call[1].split(", "));
            long least = Long.parseLong(call[2]);
            long most = Long.parseLong(call[3]);
            for (long n = least - 1; n <= most + 1; n++) {
                SpringOaths x = Moors.fullWithTape();
                x.moor();
                for (int i = 0; i < 7; i++) {
                    x.person(0, 0, 50, 0);
                }
                x.sheet(0, 0, 40);
                long[] numbers = new long[names.size()];
                numbers[names.indexOf("n")] = n;
                boolean bad = ask(x, call[0], numbers) < 0;
                Check.holds(call[0] + " by " + n + (bad ? " is refused" : " is taken"), bad == (n < least || n > most));
            }
        }
    }

    private static void refusals() {
        List<String[]> told = found("^\\| (-\\d+)[^|]* \\|", page);
        int[] due = {-1, -2, -3, -9, -11, -12, -13, -14, -15, -100};
        Check.due("answers below 0", told.size(), due.length);
        for (int i = 0; i < due.length; i++) {
            Check.due("answer told", Long.parseLong(told.get(i)[0]), due[i]);
        }
        SpringOaths x = Moors.full();
        x.sheet(3, -1, 0);
        x.shelf(3, 1, 3);
        x.mind(4, 0, 4);
        int[] answers = {x.cell(32, 0), x.person(0, 0, 0, 0), x.lowest(2), x.row(10, 0), x.taken(3, 0), x.item(0, 0, 40),
            x.taken(2, 0), x.sheet(0, 0, -1), x.act(1, 2, 5)};
        for (int i = 0; i < answers.length; i++) {
            Check.due("sample " + i, answers[i], due[i]);
        }
        Check.feed(x, "bog");
        Check.due("moor()", x.moor(), -103);
        Check.due("THE TAPE is used up", x.many(5), 0);
    }

    private static void belowZeroAndNoRefusal() {
        SpringOaths x = Moors.full();
        x.seed(-7);
        Check.due("seed", x.seed(1), -7);
        Check.due("item", x.item(0, 0, 0), -7);
        x.alterRow(0, 0, -8);
        Check.due("row", x.row(0, 0), -8);
        Check.due("alterRow", x.alterRow(0, 0, 8), -8);
        Check.due("act", x.act(1, 1, -9), -(-9 + 4 * 3 + 1) - 5 - (5 + 4 * 3 + 1));
        Check.due("act without a thing", x.act(2, 0, -9), 0);
        x.mind(4, 4, 0);
        Check.due("loses", x.loses(4), 995);
    }

    private static void tests() throws IOException {
        Set<String> files = new TreeSet<>();
        try (Stream<Path> all = Files.list(TESTS)) {
            all.forEach(path -> files.add(path.getFileName().toString().replace(".java", "")));
        }
        Set<String> told = new TreeSet<>();
        Set<Integer> promises = new TreeSet<>();
        for (String[] row : found("^\\| (`\\w+Test`.*) \\| (.*) \\|$", page)) {
            for (String[] name : found("`(\\w+)`", row[0])) {
                Check.holds(name[0] + " is told once", told.add(name[0]));
            }
            for (String[] range : found("(\\d+)(?: to (\\d+))?", row[1])) {
                int last = Integer.parseInt(range[1] == null ? range[0] : range[1]);
                boolean all = row[0].contains("TwinTest");
                for (int i = Integer.parseInt(range[0]); i <= last && !all; i++) {
                    promises.add(i);
                }
            }
        }
        for (String file : files) {
            boolean isTest = file.endsWith("Test");
            Check.holds(file + " is told", isTest ? told.contains(file) : page.contains("`" + file + "`"));
        }
        Check.holds("no other test is told", files.containsAll(told));
        Check.due("promises with a test", promises.size(), PROMISES);
        Check.due("the last one", ((TreeSet<Integer>) promises).last(), PROMISES);
        Check.holds("the way to run them", Files.isExecutable(Path.of(".ci/run")) && page.contains("    .ci/run\n"));
    }
}
