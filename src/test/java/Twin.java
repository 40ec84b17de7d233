import java.math.BigInteger;
import java.util.ArrayList;
import java.util.Comparator;
import java.util.HashMap;
import java.util.List;
import java.util.Map;
import java.util.function.Consumer;
import java.util.function.IntUnaryOperator;
import java.util.function.ToIntFunction;
import java.util.regex.Matcher;
import java.util.regex.Pattern;
import java.util.stream.IntStream;

/**
 * The class written once more, from the document alone and by other means, to hold SpringOaths against: a class for
 * each KIND and super for super, rows that are the host's own arrays, and the host's own exceptions for -11 to -15.
 */
final class Twin {
    private static final int BAD = -1;
    private static final int FULL = -2;
    private static final int NONE = -3;
    private static final int[] LAW_MOST = {9, 9, 50, 99};

    private Moor now = new Moor();
    private Moor kept = null;
    private String tape = "";
    private List<int[]> rows = new ArrayList<>();
    private final Object[] sheets = new Object[4];
    /** null, a row, or an Integer: the number of one of PEOPLE. */
    private final Object[] shelves = new Object[4];
    private List<Integer> trace = new ArrayList<>();

    public int feed(long eight, int n) {
        if (out(n, 1, 8)) {
            return BAD;
        }
        if (tape.length() + n > 200) {
            return FULL;
        }
        for (int i = 0; i < n; i++) {
            tape += (char) (eight >> 8 * i & 255);
        }
        return tape.length();
    }

    public int moor() {
        Text text = new Text(tape);
        tape = "";
        try {
            Moor told = text.read();
            told.z = now.z;
            now = told;
            rows = new ArrayList<>();
            return now.people.size();
        } catch (Fault fault) {
            return -100 - fault.place;
        }
    }

    public int set(int law, int v) {
        if (out(law, 0, 3) || out(v, 0, LAW_MOST[law])) {
            return BAD;
        }
        int was = now.laws[law];
        now.laws[law] = v;
        return was;
    }

    public int lawOf(int law) {
        return out(law, 0, 3) ? BAD : now.laws[law];
    }

    public int person(int kind, int sense, int sure, int at) {
        if (out(kind, 0, 5) || out(sense, 0, 9) || out(sure, 0, 99) || noCell(at)) {
            return BAD;
        }
        if (now.people.size() == 8) {
            return FULL;
        }
        now.come(kind, sense, sure, at);
        return now.people.size() - 1;
    }

    public int of(int person, int what) {
        if (nobody(person) || out(what, 0, 7)) {
            return BAD;
        }
        Sworn one = now.people.get(person);
        int[] answers = {one.kind, one.a, one.sure, one.at, one.wells(now), one.wins(), one.sure == 0 ? 1 : 0,
            set(now.people, other -> now.disagree(one, other))};
        return answers[what];
    }

    public int loses(int person) {
        return nobody(person) ? BAD : 1000 + now.people.get(person).loses();
    }

    public int mind(int person, int kind, int sense) {
        if (nobody(person) || out(kind, 0, 5) || out(sense, 0, 9)) {
            return BAD;
        }
        Sworn was = now.people.get(person);
        now.people.set(person, born(kind, person, sense, was.sure, was.at));
        return was.kind;
    }

    public int sure(int person, int v) {
        if (nobody(person) || out(v, 0, 99)) {
            return BAD;
        }
        int was = now.people.get(person).sure;
        now.people.get(person).sure = v;
        return was;
    }

    public int bring(int person, int cell) {
        if (nobody(person) || noCell(cell)) {
            return BAD;
        }
        int was = now.people.get(person).at;
        now.people.get(person).at = cell;
        return was;
    }

    public int cell(int cell, int what) {
        if (noCell(cell) || out(what, 0, 4)) {
            return BAD;
        }
        int[] answers = {now.waters[cell], now.heights[cell], set(now.people, one -> one.at == cell),
            now.wellAt(cell), now.pairsAt(cell)};
        return answers[what];
    }

    public int lowest(int cell) {
        return noCell(cell) ? BAD : now.lowest(cell);
    }

    public int water(int cell, int v) {
        if (noCell(cell) || out(v, 0, 99)) {
            return BAD;
        }
        int was = now.waters[cell];
        now.waters[cell] = v;
        return was;
    }

    public int height(int cell, int v) {
        if (noCell(cell) || out(v, 0, 9)) {
            return BAD;
        }
        int was = now.heights[cell];
        now.heights[cell] = v;
        return was;
    }

    public long wets(int what) {
        return switch (what) {
            case 0 -> cells(cell -> now.waters[cell] >= 10 ? 1 : 0);
            case 1 -> cells(cell -> now.people.stream().anyMatch(one -> one.at == cell) ? 1 : 0);
            case 2 -> cells(cell -> now.lowest(cell) == NONE ? 1 : 0);
            default -> BAD;
        };
    }

    public int years(int n) {
        if (out(n, 1, 60)) {
            return BAD;
        }
        now.years(n);
        return many(1);
    }

    public int seed(int v) {
        int was = now.z;
        now.z = v;
        return was;
    }

    public int year() {
        now.yearByDraws();
        return now.lost();
    }

    public int revel(int n) {
        if (out(n, 1, 30)) {
            return BAD;
        }
        int z = now.z;
        int found = 0;
        for (int i = 0; i < n; i++) {
            Moor one = now.copy();
            one.z = z;
            one.yearByDraws();
            z = one.z;
            found += one.lost() > now.lost() ? 1 : 0;
        }
        return found;
    }

    public int state(int what) {
        return switch (what) {
            case 0 -> now.year;
            case 1 -> IntStream.of(now.waters).sum();
            case 2 -> set(now.people, one -> one.sure == 0);
            case 3 -> now.people.stream().mapToInt(one -> one.sure).sum();
            case 4 -> IntStream.range(0, 32).map(now::pairsAt).sum();
            default -> BAD;
        };
    }

    public int level(int cell, int n) {
        return noCell(cell) || out(n, 0, 60) ? BAD : level(now, cell, n);
    }

    public int damp(int cell) {
        return noCell(cell) ? BAD : first(moor -> moor.waters[cell] >= 10);
    }

    public int loss(int person) {
        return nobody(person) ? BAD : first(moor -> moor.people.get(person).sure == 0);
    }

    public int drowned() {
        return first(moor -> moor.people.stream().allMatch(one -> moor.waters[one.at] >= 10));
    }

    public int whereFor(int person, int cell, int n) {
        return nobody(person) || noCell(cell) || out(n, 1, 20) ? BAD
            : best(32, where -> levelIf(moor -> moor.people.get(person).at = where, cell, n));
    }

    public int kindFor(int person, int cell, int n) {
        return nobody(person) || noCell(cell) || out(n, 1, 20) ? BAD
            : best(6, kind -> levelIf(moor -> {
                Sworn was = moor.people.get(person);
                moor.people.set(person, born(kind, person, was.a, was.sure, was.at));
            }, cell, n));
    }

    public int annoyed(int person, int cell, int n) {
        if (nobody(person) || noCell(cell) || out(n, 1, 20)) {
            return BAD;
        }
        return IntStream.range(0, 100)
            .filter(v -> levelIf(moor -> moor.people.get(person).sure = v, cell, n) >= 10)
            .findFirst().orElse(NONE);
    }

    public int needed(int cell, int n) {
        if (noCell(cell) || out(n, 1, 20)) {
            return BAD;
        }
        int many = now.people.size();
        int one = best(many, person -> -levelIf(moor -> moor.people.get(person).without = true, cell, n));
        boolean less = many > 0
            && levelIf(moor -> moor.people.get(one).without = true, cell, n) < level(now, cell, n);
        return less ? one : NONE;
    }

    public int fewest(int cell, int n) {
        if (noCell(cell) || out(n, 1, 20)) {
            return BAD;
        }
        return IntStream.range(0, 1 << now.people.size()).boxed()
            .sorted(Comparator.comparing((Integer people) -> Integer.bitCount(people)).thenComparing(people -> people))
            .filter(people -> levelIf(moor -> moor.leave(people), cell, n) >= 10)
            .findFirst().orElse(NONE);
    }

    public int ends(int cell) {
        if (noCell(cell)) {
            return BAD;
        }
        return now.lowest(cell) == NONE ? cell : ends(now.lowest(cell));
    }

    public int fits(int sheet, int cell, int person, int what) {
        if (out(sheet, 0, 3) || noCell(cell) || nobody(person) || out(what, 0, 1)) {
            return BAD;
        }
        if (sheets[sheet] == null) {
            return -11;
        }
        int[] sures = IntStream.range(0, 100).filter(v -> {
            Moor moor = now.copy();
            moor.people.get(person).sure = v;
            boolean fit = true;
            for (long told : numbers(sheets[sheet])) {
                moor.year();
                fit = fit && (told == -1 || told == moor.waters[cell]);
            }
            return fit;
        }).toArray();
        return what == 0 ? sures.length : sures.length == 0 ? NONE : sures[0];
    }

    /** Every way in which n YEARS may be drunk or not, one by one. */
    public long odds(int n, int k, int part) {
        if (out(n, 0, 8) || out(k, 0, n) || out(part, 0, 1)) {
            return BAD;
        }
        BigInteger above = BigInteger.ZERO;
        for (int drunk = 0; drunk < 1 << n; drunk++) {
            if (Integer.bitCount(drunk) == k) {
                above = above.add(BigInteger.valueOf(now.laws[3]).pow(k)
                    .multiply(BigInteger.valueOf(100 - now.laws[3]).pow(n - k)));
            }
        }
        return part(above, BigInteger.valueOf(100).pow(n), part);
    }

    public long hope(int n, int part) {
        if (out(n, 0, 99) || out(part, 0, 1)) {
            return BAD;
        }
        return part(BigInteger.valueOf(n).multiply(BigInteger.valueOf(now.laws[3])), BigInteger.valueOf(100), part);
    }

    public int prove(int person, int n) {
        if (nobody(person) || out(n, 1, 10)) {
            return BAD;
        }
        rows = rowsOf(person, n);
        return n;
    }

    public int row(int i, int what) {
        return out(i, 0, rows.size() - 1) || out(what, 0, 2) ? -9 : rows.get(i)[what];
    }

    public int alterRow(int i, int what, int v) {
        int was = row(i, what);
        if (!out(i, 0, rows.size() - 1) && !out(what, 0, 2)) {
            rows.get(i)[what] = v;
        }
        return was;
    }

    public int judge(int person) {
        if (nobody(person)) {
            return BAD;
        }
        List<int[]> right = rowsOf(person, rows.size());
        return IntStream.range(0, rows.size()).filter(i -> !java.util.Arrays.equals(rows.get(i), right.get(i)))
            .map(i -> i + 1).findFirst().orElse(0);
    }

    public int minds(int sheet, int i, int person, int n) {
        if (out(sheet, 0, 3) || nobody(person) || out(n, 0, 8) || person + n > now.people.size()) {
            return BAD;
        }
        byte[] bytes = new byte[8];
        try {
            System.arraycopy(sheets[sheet], i, bytes, 0, n);
        } catch (NullPointerException nothing) {
            return -11;
        } catch (ArrayStoreException otherSort) {
            return -13;
        } catch (IndexOutOfBoundsException outside) {
            return -12;
        }
        for (int k = 0; k < n; k++) {
            now.people.get(person + k).sure = Math.max(0, Math.min(99, bytes[k]));
        }
        return n;
    }

    public int sheet(int sheet, int sort, int n) {
        if (out(sheet, 0, 3) || out(sort, -1, 3) || sort >= 0 && n > 40) {
            return BAD;
        }
        try {
            sheets[sheet] = switch (sort) {
                case 0 -> new byte[n];
                case 1 -> new short[n];
                case 2 -> new int[n];
                case 3 -> new long[n];
                default -> null;
            };
            return 1;
        } catch (NegativeArraySizeException below) {
            return -14;
        }
    }

    public int put(int sheet, int i, int v) {
        if (out(sheet, 0, 3)) {
            return BAD;
        }
        try {
            if (sheets[sheet] instanceof byte[] bytes) {
                bytes[i] = (byte) v;
            } else if (sheets[sheet] instanceof short[] shorts) {
                shorts[i] = (short) v;
            } else if (sheets[sheet] instanceof int[] ints) {
                ints[i] = v;
            } else {
                ((long[]) sheets[sheet])[i] = v;
            }
            return 1;
        } catch (NullPointerException nothing) {
            return -11;
        } catch (ArrayIndexOutOfBoundsException outside) {
            return -12;
        }
    }

    public int item(int sheet, int sort, int i) {
        if (out(sheet, 0, 3) || out(sort, 0, 3)) {
            return BAD;
        }
        try {
            Object row = sheets[sheet];
            return switch (sort) {
                case 0 -> ((byte[]) row)[i];
                case 1 -> ((short[]) row)[i];
                case 2 -> ((int[]) row)[i];
                default -> (int) ((long[]) row)[i];
            };
        } catch (NullPointerException nothing) {
            return -11;
        } catch (ClassCastException otherSort) {
            return -13;
        } catch (ArrayIndexOutOfBoundsException outside) {
            return -12;
        }
    }

    public int shelf(int shelf, int what, int n) {
        boolean noThing = what == 0 && nobody(n) || what == 1 && out(n, 0, 3);
        if (out(shelf, 0, 3) || out(what, 0, 2) || noThing) {
            return BAD;
        }
        shelves[shelf] = what == 0 ? (Object) n : what == 1 ? sheets[n] : null;
        return 1;
    }

    public int taken(int shelf, int as) {
        if (out(shelf, 0, 3) || out(as, 0, 5) && out(as, 10, 13)) {
            return BAD;
        }
        try {
            Object held = held(shelf);
            return switch (as) {
                case 0 -> ((Sworn) held).n;
                case 1 -> ((Engineer) held).n;
                case 2 -> ((Doubter) held).n;
                case 3 -> ((Expert) held).n;
                case 4 -> ((Dowser) held).n;
                case 5 -> ((Drunkard) held).n;
                case 10 -> ((byte[]) held).length;
                case 11 -> ((short[]) held).length;
                case 12 -> ((int[]) held).length;
                default -> ((long[]) held).length;
            };
        } catch (NullPointerException nothing) {
            return -11;
        } catch (ClassCastException other) {
            return -13;
        }
    }

    public int act(int shelf, int act, int x) {
        trace = new ArrayList<>();
        if (out(shelf, 0, 3) || out(act, 0, 3) || !(held(shelf) instanceof Sworn)) {
            return 0;
        }
        Sworn one = (Sworn) held(shelf);
        one.trace = trace;
        try {
            return switch (act) {
                case 0 -> one.swears(x);
                case 1 -> one.doubts(x);
                case 2 -> one.parts(x);
                default -> one.signs(x);
            };
        } catch (ArithmeticException byZero) {
            return -15;
        }
    }

    public int trace(int i) {
        return out(i, 0, Math.min(30, trace.size()) - 1) ? NONE : trace.get(i);
    }

    public int many(int what) {
        return switch (what) {
            case 0 -> now.people.size();
            case 1 -> Long.bitCount(wets(0));
            case 2 -> now.lost();
            case 3 -> Long.bitCount(wets(2));
            case 4 -> rows.size();
            case 5 -> tape.length();
            case 6 -> Math.min(30, trace.size());
            default -> BAD;
        };
    }

    public int keep() {
        kept = now.copy();
        return 1;
    }

    public int again() {
        if (kept == null) {
            return NONE;
        }
        now = kept.copy();
        return now.people.size();
    }

    // ---- what the calls share

    private static boolean out(int v, int least, int most) {
        return v < least || v > most;
    }

    private static boolean noCell(int cell) {
        return out(cell, 0, 31);
    }

    private boolean nobody(int person) {
        return out(person, 0, now.people.size() - 1);
    }

    private Object held(int shelf) {
        if (shelves[shelf] instanceof Integer number) {
            return nobody(number) ? null : now.people.get(number);
        }
        return shelves[shelf];
    }

    private static int set(List<Sworn> people, java.util.function.Predicate<Sworn> those) {
        return people.stream().filter(those).mapToInt(one -> 1 << one.n).sum();
    }

    private static long cells(IntUnaryOperator oneOrNot) {
        return IntStream.range(0, 32).mapToLong(cell -> (long) oneOrNot.applyAsInt(cell) << cell).sum();
    }

    private static int level(Moor from, int cell, int n) {
        Moor moor = from.copy();
        moor.years(n);
        return moor.waters[cell];
    }

    private int levelIf(Consumer<Moor> changed, int cell, int n) {
        Moor moor = now.copy();
        changed.accept(moor);
        return level(moor, cell, n);
    }

    /** The least of those below many for which the value is greatest. */
    private static int best(int many, IntUnaryOperator value) {
        Map<Integer, Integer> values = new HashMap<>();
        return IntStream.range(0, many).boxed()
            .max(Comparator.comparing((Integer i) -> values.computeIfAbsent(i, value::applyAsInt))
                .thenComparing(i -> -i))
            .orElse(NONE);
    }

    private int first(java.util.function.Predicate<Moor> is) {
        Moor moor = now.copy();
        int n = 0;
        while (n <= 60 && !is.test(moor)) {
            moor.year();
            n++;
        }
        return n <= 60 ? n : NONE;
    }

    private List<int[]> rowsOf(int person, int n) {
        List<int[]> found = new ArrayList<>();
        Moor moor = now.copy();
        for (int i = 0; i < n; i++) {
            moor.year();
            Sworn one = moor.people.get(person);
            found.add(new int[] {one.sure, moor.waters[one.at], set(moor.people, other -> other.sure == 0)});
        }
        return found;
    }

    private static long part(BigInteger above, BigInteger below, int part) {
        BigInteger common = above.gcd(below);
        return (part == 0 ? above : below).divide(common).longValueExact();
    }

    private static long[] numbers(Object row) {
        return IntStream.range(0, java.lang.reflect.Array.getLength(row))
            .mapToLong(i -> java.lang.reflect.Array.getLong(row, i)).toArray();
    }

    private static Sworn born(int kind, int n, int sense, int sure, int at) {
        Sworn one = switch (kind) {
            case 1 -> new Engineer();
            case 2 -> new Doubter();
            case 3 -> new Expert();
            case 4 -> new Dowser();
            case 5 -> new Drunkard();
            default -> new Sworn();
        };
        one.kind = kind;
        one.n = n;
        one.a = sense;
        one.sure = sure;
        one.at = at;
        return one;
    }

    /** LAWS, YEAR, z, CELLS and PEOPLE. */
    private static final class Moor {
        int[] laws = {2, 3, 20, 20};
        int year = 0;
        int z = 1;
        int[] heights = IntStream.range(0, 32).map(cell -> 5).toArray();
        int[] waters = new int[32];
        List<Sworn> people = new ArrayList<>();

        Moor copy() {
            Moor moor = new Moor();
            moor.laws = laws.clone();
            moor.year = year;
            moor.z = z;
            moor.heights = heights.clone();
            moor.waters = waters.clone();
            for (Sworn one : people) {
                moor.come(one.kind, one.a, one.sure, one.at).without = one.without;
            }
            return moor;
        }

        Sworn come(int kind, int sense, int sure, int at) {
            Sworn one = born(kind, people.size(), sense, sure, at);
            people.add(one);
            return one;
        }

        /** All but those in a set are without effect. */
        void leave(int set) {
            for (Sworn one : people) {
                one.without = (set & 1 << one.n) == 0;
            }
        }

        int lost() {
            return (int) people.stream().filter(one -> one.sure == 0).count();
        }

        int lowest(int cell) {
            int best = NONE;
            for (int other = 0; other < 32; other++) {
                boolean beside = Math.abs(other / 8 - cell / 8) + Math.abs(other % 8 - cell % 8) == 1;
                if (beside && heights[other] < heights[cell] && (best < 0 || heights[other] < heights[best])) {
                    best = other;
                }
            }
            return best;
        }

        boolean disagree(Sworn one, Sworn other) {
            return one.at == other.at && one.sure > 0 && other.sure > 0 && !one.without && !other.without
                && (one.sure >= other.sure + 30 || other.sure >= one.sure + 30);
        }

        int wellAt(int cell) {
            return sumAt(cell, one -> one.without ? 0 : one.wells(this));
        }

        int pairsAt(int cell) {
            return sumAt(cell, one -> sumAt(cell, other -> one.n < other.n && disagree(one, other) ? 1 : 0));
        }

        private int sumAt(int cell, ToIntFunction<Sworn> number) {
            int sum = 0;
            for (Sworn one : people) {
                sum += one.at == cell ? number.applyAsInt(one) : 0;
            }
            return sum;
        }

        void years(int n) {
            for (int i = 0; i < n; i++) {
                year();
            }
        }

        void year() {
            for (int cell = 0; cell < 32; cell++) {
                more(cell, wellAt(cell) + laws[1] * pairsAt(cell));
            }
            for (int cell = 0; cell < 32; cell++) {
                int to = lowest(cell);
                if (to >= 0 && waters[cell] > laws[2]) {
                    int half = (waters[cell] - laws[2]) / 2;
                    more(cell, -half);
                    more(to, half);
                }
            }
            for (Sworn one : people) {
                if (one.sure > 0) {
                    int sure = waters[one.at] >= 10 ? one.sure - one.loses() : one.sure + one.wins();
                    one.sure = sure < 0 ? 0 : sure > 99 ? 99 : sure;
                }
            }
            year++;
        }

        private void more(int cell, int by) {
            waters[cell] = Math.min(99, waters[cell] + by);
        }

        int draw() {
            z = z * 1103515245 + 12345;
            return z >>> 16;
        }

        void yearByDraws() {
            if (!people.isEmpty()) {
                Sworn one = people.get(draw() % people.size());
                if (draw() % 100 < laws[3]) {
                    one.sure = one.sure / 2;
                }
            }
            year();
        }
    }

    private static final class Fault extends Exception {
        private static final long serialVersionUID = 1;
        final int place;

        Fault(int place) {
            this.place = place;
        }
    }

    /** NAMES, NUMBERS and other bytes one by one, then what they tell. */
    private static final class Text {
        private static final List<String> KINDS =
            List.of("sworn", "engineer", "doubter", "expert", "dowser", "drunkard");
        private static final List<String> LAWS = List.of("spring", "seep", "bog", "drink");
        private final List<String> tokens = new ArrayList<>();
        private final List<Integer> places = new ArrayList<>();
        private int at = 0;

        Text(String tape) {
            Matcher matcher = Pattern.compile("[a-z]+|[0-9]+|[^ ]", Pattern.DOTALL).matcher(tape);
            while (matcher.find()) {
                tokens.add(matcher.group());
                places.add(matcher.start());
            }
            tokens.add("");
            places.add(tape.length());
        }

        Moor read() throws Fault {
            Moor moor = new Moor();
            while (!here("")) {
                String name = tokens.get(at);
                if (KINDS.contains(name)) {
                    readPerson(moor, KINDS.indexOf(name));
                } else if (LAWS.contains(name)) {
                    at++;
                    moor.laws[LAWS.indexOf(name)] = number(LAW_MOST[LAWS.indexOf(name)]);
                } else if (name.equals("height") || name.equals("water")) {
                    at++;
                    int cell = number(31);
                    must("is");
                    int v = number(name.equals("height") ? 9 : 99);
                    (name.equals("height") ? moor.heights : moor.waters)[cell] = v;
                } else {
                    throw new Fault(places.get(at));
                }
                must(";");
            }
            return moor;
        }

        private void readPerson(Moor moor, int kind) throws Fault {
            if (moor.people.size() == 8) {
                throw new Fault(places.get(at));
            }
            at++;
            must("at");
            int cell = number(31);
            int sure = may("sure", 99, 50);
            int sense = may("sense", 9, 0);
            moor.come(kind, sense, sure, cell);
        }

        private int may(String name, int most, int without) throws Fault {
            if (!here(name)) {
                return without;
            }
            at++;
            return number(most);
        }

        private boolean here(String token) {
            return tokens.get(at).equals(token);
        }

        private void must(String token) throws Fault {
            if (!here(token)) {
                throw new Fault(places.get(at));
            }
            at++;
        }

        private int number(int most) throws Fault {
            if (!tokens.get(at).matches("[0-9]{1,3}") || Integer.parseInt(tokens.get(at)) > most) {
                throw new Fault(places.get(at));
            }
            at++;
            return Integer.parseInt(tokens.get(at - 1));
        }
    }

    private static class Sworn {
        List<Integer> trace;
        int kind;
        int n;
        int a;
        int sure;
        int at;
        boolean without = false;

        int wells(Moor moor) {
            return sure >= 50 ? a : 0;
        }

        int loses() {
            return 10;
        }

        int wins() {
            return 3;
        }

        int swears(int x) {
            trace.add(10);
            return x + n * 3;
        }

        int doubts(int x) {
            trace.add(11);
            return swears(x) - a;
        }

        int parts(int x) {
            trace.add(12);
            return x / (a - n);
        }

        int signs(int x) {
            trace.add(13);
            return doubts(x) ^ 9;
        }
    }

    private static class Engineer extends Sworn {
        @Override
        int wells(Moor moor) {
            return super.wells(moor) * 2;
        }

        @Override
        int loses() {
            return super.loses() / 2;
        }

        @Override
        int wins() {
            return super.wins() + 2;
        }

        @Override
        int doubts(int x) {
            trace.add(20);
            return super.doubts(x) * 2;
        }
    }

    private static class Doubter extends Sworn {
        @Override
        int wells(Moor moor) {
            int wells = super.wells(moor);
            return wells == 0 && sure > 0 ? 1 : wells;
        }

        @Override
        int loses() {
            return super.loses() + a;
        }

        @Override
        int wins() {
            return super.wins() - 2;
        }

        @Override
        int swears(int x) {
            trace.add(30);
            return super.swears(x) + 1;
        }

        @Override
        int signs(int x) {
            trace.add(31);
            return super.signs(x) - parts(n);
        }
    }

    private static class Expert extends Engineer {
        @Override
        int wells(Moor moor) {
            return super.wells(moor) + moor.laws[0];
        }

        @Override
        int loses() {
            return 0;
        }

        @Override
        int parts(int x) {
            trace.add(50);
            return super.parts(x * 4) - a;
        }

        @Override
        int swears(int x) {
            trace.add(51);
            return super.swears(x) ^ n;
        }
    }

    private static class Dowser extends Doubter {
        @Override
        int wells(Moor moor) {
            return super.wells(moor) / 2;
        }

        @Override
        int loses() {
            return super.loses() - 15;
        }

        @Override
        int swears(int x) {
            trace.add(40);
            return 0 - super.swears(x);
        }

        @Override
        int doubts(int x) {
            trace.add(41);
            return super.doubts(x) + swears(a);
        }
    }

    private static class Drunkard extends Sworn {
        @Override
        int wells(Moor moor) {
            return moor.year % 2 == 0 ? super.wells(moor) : 0;
        }

        @Override
        int loses() {
            return super.loses() * 3;
        }

        @Override
        int wins() {
            return 0;
        }

        @Override
        int signs(int x) {
            trace.add(60);
            return 50 - super.signs(x);
        }

        @Override
        int parts(int x) {
            trace.add(61);
            return super.parts(x) + swears(n);
        }
    }
}
