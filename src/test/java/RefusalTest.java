import java.util.List;
import java.util.function.Supplier;

/**
 * "Answers below 0 are refusals; such a call changes nothing (but that THE TAPE is used up by moor()); of several
 * the first named": each call's first number that is not taken, on both sides, where nothing is there, some is and
 * everything is full; two refusals at once; and that those who are asked change nothing either.
 */
public final class RefusalTest {
    private static final int BAD = SpringOaths.BAD;
    private static final int FULL = SpringOaths.FULL;
    private static final int NONE = SpringOaths.NONE;
    private static final int MIN = Integer.MIN_VALUE;
    private static final int MAX = Integer.MAX_VALUE;
    private static final List<Supplier<SpringOaths>> ALL = List.of(Moors::empty, Moors::someWithTape, Moors::fullWithTape);

    public static void main(String[] args) {
        lawsAndPeople();
        cells();
        years();
        tried();
        oddsAndRows();
        sheets();
        shelves();
        nothingThere();
        everythingFull();
        noneFound();
        twoAtOnce();
        refusedTape();
        actPartedByZero();
        askingChangesNothing();
        askedInAnyOrder();
        whatIsTakenIsSeen();
        Check.end("RefusalTest");
    }

    private static void everywhere(String call, Moors.Call asked, long due) {
        for (Supplier<SpringOaths> made : ALL) {
            Moors.changesNothing(call, made, asked, due);
        }
    }

    private static void inSome(String call, Moors.Call asked, long due) {
        Moors.changesNothing(call, Moors::someWithTape, asked, due);
    }

    private static void inFull(String call, Moors.Call asked, long due) {
        Moors.changesNothing(call, Moors::fullWithTape, asked, due);
    }

    private static void inEmpty(String call, Moors.Call asked, long due) {
        Moors.changesNothing(call, Moors::empty, asked, due);
    }

    /** Numbers on both sides of 0 to most, next to it and far away. */
    private static int[] beside(int most) {
        return new int[] {-1, most + 1, MIN, MAX};
    }

    private static void lawsAndPeople() {
        for (int n : new int[] {0, 9, -1, MIN, MAX}) {
            everywhere("feed(59, " + n + ")", x -> x.feed(59, n), BAD);
        }
        int[] most = {9, 9, 50, 99};
        for (int law = 0; law < 4; law++) {
            int one = law;
            for (int v : beside(most[law])) {
                everywhere("set(" + law + ", " + v + ")", x -> x.set(one, v), BAD);
            }
        }
        for (int law : beside(3)) {
            everywhere("set(" + law + ", 0)", x -> x.set(law, 0), BAD);
            everywhere("lawOf(" + law + ")", x -> x.lawOf(law), BAD);
        }
        for (int kind : beside(5)) {
            everywhere("person, kind " + kind, x -> x.person(kind, 0, 0, 0), BAD);
            everywhere("mind, kind " + kind, x -> x.mind(0, kind, 0), BAD);
        }
        for (int sense : beside(9)) {
            everywhere("person, sense " + sense, x -> x.person(0, sense, 0, 0), BAD);
            everywhere("mind, sense " + sense, x -> x.mind(0, 0, sense), BAD);
        }
        for (int v : beside(99)) {
            everywhere("person, sure " + v, x -> x.person(0, 0, v, 0), BAD);
            everywhere("sure(0, " + v + ")", x -> x.sure(0, v), BAD);
        }
        for (int cell : beside(31)) {
            everywhere("person, at " + cell, x -> x.person(0, 0, 0, cell), BAD);
            everywhere("bring(0, " + cell + ")", x -> x.bring(0, cell), BAD);
        }
        for (int what : beside(7)) {
            everywhere("of(0, " + what + ")", x -> x.of(0, what), BAD);
        }
        for (int person : beside(7)) {
            everywhere("of(" + person + ", 2)", x -> x.of(person, 2), BAD);
            everywhere("loses(" + person + ")", x -> x.loses(person), BAD);
            everywhere("mind(" + person + ", 1, 1)", x -> x.mind(person, 1, 1), BAD);
            everywhere("sure(" + person + ", 1)", x -> x.sure(person, 1), BAD);
            everywhere("bring(" + person + ", 1)", x -> x.bring(person, 1), BAD);
        }
    }

    private static void cells() {
        for (int cell : beside(31)) {
            everywhere("cell(" + cell + ", 0)", x -> x.cell(cell, 0), BAD);
            everywhere("lowest(" + cell + ")", x -> x.lowest(cell), BAD);
            everywhere("water(" + cell + ", 1)", x -> x.water(cell, 1), BAD);
            everywhere("height(" + cell + ", 1)", x -> x.height(cell, 1), BAD);
            everywhere("ends(" + cell + ")", x -> x.ends(cell), BAD);
        }
        for (int what : beside(4)) {
            everywhere("cell(0, " + what + ")", x -> x.cell(0, what), BAD);
            everywhere("state(" + what + ")", x -> x.state(what), BAD);
        }
        for (int v : beside(99)) {
            everywhere("water(0, " + v + ")", x -> x.water(0, v), BAD);
        }
        for (int v : beside(9)) {
            everywhere("height(0, " + v + ")", x -> x.height(0, v), BAD);
        }
        for (int what : beside(2)) {
            everywhere("wets(" + what + ")", x -> x.wets(what), BAD);
        }
        for (int what : beside(6)) {
            everywhere("many(" + what + ")", x -> x.many(what), BAD);
        }
    }

    private static void years() {
        for (int n : new int[] {0, 61, -1, MIN, MAX}) {
            everywhere("years(" + n + ")", x -> x.years(n), BAD);
        }
        for (int n : new int[] {0, 31, -1, MIN, MAX}) {
            everywhere("revel(" + n + ")", x -> x.revel(n), BAD);
        }
        for (int n : beside(60)) {
            everywhere("level(0, " + n + ")", x -> x.level(0, n), BAD);
        }
    }

    private static void tried() {
        for (int cell : beside(31)) {
            everywhere("level(" + cell + ", 1)", x -> x.level(cell, 1), BAD);
            everywhere("damp(" + cell + ")", x -> x.damp(cell), BAD);
            everywhere("whereFor(0, " + cell + ", 1)", x -> x.whereFor(0, cell, 1), BAD);
            everywhere("kindFor(0, " + cell + ", 1)", x -> x.kindFor(0, cell, 1), BAD);
            everywhere("annoyed(0, " + cell + ", 1)", x -> x.annoyed(0, cell, 1), BAD);
            everywhere("needed(" + cell + ", 1)", x -> x.needed(cell, 1), BAD);
            everywhere("fewest(" + cell + ", 1)", x -> x.fewest(cell, 1), BAD);
            everywhere("fits(0, " + cell + ", 0, 0)", x -> x.fits(0, cell, 0, 0), BAD);
        }
        for (int person : beside(7)) {
            everywhere("loss(" + person + ")", x -> x.loss(person), BAD);
            everywhere("whereFor(" + person + ", 0, 1)", x -> x.whereFor(person, 0, 1), BAD);
            everywhere("kindFor(" + person + ", 0, 1)", x -> x.kindFor(person, 0, 1), BAD);
            everywhere("annoyed(" + person + ", 0, 1)", x -> x.annoyed(person, 0, 1), BAD);
            everywhere("fits(0, 0, " + person + ", 0)", x -> x.fits(0, 0, person, 0), BAD);
        }
        for (int n : new int[] {0, 21, -1, MIN, MAX}) {
            everywhere("whereFor(0, 0, " + n + ")", x -> x.whereFor(0, 0, n), BAD);
            everywhere("kindFor(0, 0, " + n + ")", x -> x.kindFor(0, 0, n), BAD);
            everywhere("annoyed(0, 0, " + n + ")", x -> x.annoyed(0, 0, n), BAD);
            everywhere("needed(0, " + n + ")", x -> x.needed(0, n), BAD);
            everywhere("fewest(0, " + n + ")", x -> x.fewest(0, n), BAD);
        }
        for (int sheet : beside(3)) {
            everywhere("fits(" + sheet + ", 0, 0, 0)", x -> x.fits(sheet, 0, 0, 0), BAD);
        }
        for (int what : beside(1)) {
            everywhere("fits(0, 0, 0, " + what + ")", x -> x.fits(0, 0, 0, what), BAD);
        }
    }

    private static void oddsAndRows() {
        for (int n : beside(8)) {
            everywhere("odds(" + n + ", 0, 0)", x -> x.odds(n, 0, 0), BAD);
        }
        for (int n = 0; n <= 8; n++) {
            int years = n;
            for (int k : beside(n)) {
                everywhere("odds(" + n + ", " + k + ", 1)", x -> x.odds(years, k, 1), BAD);
            }
        }
        for (int n : beside(99)) {
            everywhere("hope(" + n + ", 0)", x -> x.hope(n, 0), BAD);
        }
        for (int part : beside(1)) {
            everywhere("odds(1, 0, " + part + ")", x -> x.odds(1, 0, part), BAD);
            everywhere("hope(1, " + part + ")", x -> x.hope(1, part), BAD);
        }
        for (int person : beside(7)) {
            everywhere("prove(" + person + ", 1)", x -> x.prove(person, 1), BAD);
            everywhere("judge(" + person + ")", x -> x.judge(person), BAD);
        }
        for (int n : new int[] {0, 11, -1, MIN, MAX}) {
            everywhere("prove(0, " + n + ")", x -> x.prove(0, n), BAD);
        }
        for (int i : beside(9)) {
            everywhere("row(" + i + ", 0)", x -> x.row(i, 0), -9);
            everywhere("alterRow(" + i + ", 0, 1)", x -> x.alterRow(i, 0, 1), -9);
        }
        for (int what : beside(2)) {
            everywhere("row(0, " + what + ")", x -> x.row(0, what), -9);
            everywhere("alterRow(0, " + what + ", 1)", x -> x.alterRow(0, what, 1), -9);
        }
    }

    private static void sheets() {
        for (int sheet : beside(3)) {
            everywhere("minds(" + sheet + ", 0, 0, 0)", x -> x.minds(sheet, 0, 0, 0), BAD);
            everywhere("sheet(" + sheet + ", 0, 1)", x -> x.sheet(sheet, 0, 1), BAD);
            everywhere("sheet(" + sheet + ", -1, 1)", x -> x.sheet(sheet, -1, 1), BAD);
            everywhere("put(" + sheet + ", 0, 1)", x -> x.put(sheet, 0, 1), BAD);
            everywhere("item(" + sheet + ", 0, 0)", x -> x.item(sheet, 0, 0), BAD);
        }
        for (int person : beside(7)) {
            everywhere("minds(0, 0, " + person + ", 0)", x -> x.minds(0, 0, person, 0), BAD);
        }
        for (int n : beside(8)) {
            everywhere("minds(0, 0, 0, " + n + ")", x -> x.minds(0, 0, 0, n), BAD);
        }
        for (int sort : new int[] {-2, 4, MIN, MAX}) {
            everywhere("sheet(0, " + sort + ", 1)", x -> x.sheet(0, sort, 1), BAD);
        }
        for (int sort : beside(3)) {
            everywhere("item(0, " + sort + ", 0)", x -> x.item(0, sort, 0), BAD);
        }
        for (int sort = 0; sort < 4; sort++) {
            int one = sort;
            everywhere("sheet(0, " + sort + ", 41)", x -> x.sheet(0, one, 41), BAD);
            everywhere("sheet(0, " + sort + ", MAX)", x -> x.sheet(0, one, MAX), BAD);
            everywhere("sheet(0, " + sort + ", -1)", x -> x.sheet(0, one, -1), -14);
            everywhere("sheet(0, " + sort + ", MIN)", x -> x.sheet(0, one, MIN), -14);
        }
        int[] sizes = {40, 8, 3, 0};
        for (int sheet = 0; sheet < 4; sheet++) {
            int one = sheet;
            for (int i : beside(sizes[sheet] - 1)) {
                inFull("put(" + sheet + ", " + i + ", 1)", x -> x.put(one, i, 1), -12);
                inFull("item(" + sheet + ", " + sheet + ", " + i + ")", x -> x.item(one, one, i), -12);
            }
            for (int sort = 0; sort < 4; sort++) {
                int other = sort;
                if (sort != sheet) {
                    inFull("item(" + sheet + ", " + sort + ", 0)", x -> x.item(one, other, 0), -13);
                }
            }
            if (sheet != 0) {
                inFull("minds(" + sheet + ", 0, 0, 0)", x -> x.minds(one, 0, 0, 0), -13);
            }
        }
        for (int i : beside(40)) {
            inFull("minds(0, " + i + ", 0, 0)", x -> x.minds(0, i, 0, 0), -12);
            inFull("minds(0, " + i + ", 0, 8)", x -> x.minds(0, i, 0, 8), -12);
        }
        for (int n = 1; n <= 8; n++) {
            int many = n;
            inFull("minds(0, " + (41 - n) + ", 0, " + n + ")", x -> x.minds(0, 41 - many, 0, many), -12);
            inFull("minds(0, 0, " + (9 - n) + ", " + n + ")", x -> x.minds(0, 0, 9 - many, many), BAD);
        }
    }

    private static void shelves() {
        for (int shelf : beside(3)) {
            for (int what = 0; what < 3; what++) {
                int one = what;
                everywhere("shelf(" + shelf + ", " + what + ", 0)", x -> x.shelf(shelf, one, 0), BAD);
            }
            everywhere("taken(" + shelf + ", 0)", x -> x.taken(shelf, 0), BAD);
            everywhere("taken(" + shelf + ", 10)", x -> x.taken(shelf, 10), BAD);
        }
        for (int what : beside(2)) {
            everywhere("shelf(0, " + what + ", 0)", x -> x.shelf(0, what, 0), BAD);
        }
        for (int n : beside(7)) {
            everywhere("shelf(0, 0, " + n + ")", x -> x.shelf(0, 0, n), BAD);
        }
        for (int n : beside(3)) {
            everywhere("shelf(0, 1, " + n + ")", x -> x.shelf(0, 1, n), BAD);
        }
        for (int as : new int[] {-1, 6, 9, 14, MIN, MAX}) {
            for (int shelf = 0; shelf < 4; shelf++) {
                int one = shelf;
                everywhere("taken(" + shelf + ", " + as + ")", x -> x.taken(one, as), BAD);
            }
        }
        for (int as : new int[] {0, 5, 10, 13}) {
            inEmpty("taken(0, " + as + ") of nothing", x -> x.taken(0, as), -11);
            inSome("taken(3, " + as + ") of nothing", x -> x.taken(3, as), -11);
        }
        for (int as : new int[] {0, 5, 11, 13}) {
            inFull("taken(2, " + as + ") of bytes", x -> x.taken(2, as), -13);
        }
        for (int as : new int[] {1, 3, 5, 10, 13}) {
            inFull("taken(1, " + as + ") of a dowser", x -> x.taken(1, as), -13);
        }
        for (int i : new int[] {-1, 30, MIN, MAX}) {
            everywhere("trace(" + i + ")", x -> x.trace(i), NONE);
        }
        inEmpty("trace(0)", x -> x.trace(0), NONE);
        inFull("trace behind the last", x -> x.trace(x.many(6)), NONE);
    }

    /** Nobody, no ROWS, no SHEETS, nothing kept. */
    private static void nothingThere() {
        inEmpty("of(0, 0)", x -> x.of(0, 0), BAD);
        inEmpty("loses(0)", x -> x.loses(0), BAD);
        inEmpty("mind(0, 0, 0)", x -> x.mind(0, 0, 0), BAD);
        inEmpty("sure(0, 0)", x -> x.sure(0, 0), BAD);
        inEmpty("bring(0, 0)", x -> x.bring(0, 0), BAD);
        inEmpty("lowest(0)", x -> x.lowest(0), NONE);
        inEmpty("damp(0)", x -> x.damp(0), NONE);
        inEmpty("loss(0)", x -> x.loss(0), BAD);
        inEmpty("whereFor(0, 0, 1)", x -> x.whereFor(0, 0, 1), BAD);
        inEmpty("kindFor(0, 0, 1)", x -> x.kindFor(0, 0, 1), BAD);
        inEmpty("annoyed(0, 0, 1)", x -> x.annoyed(0, 0, 1), BAD);
        inEmpty("needed(0, 1)", x -> x.needed(0, 1), NONE);
        inEmpty("fewest(0, 1)", x -> x.fewest(0, 1), NONE);
        inEmpty("fits(0, 0, 0, 0)", x -> x.fits(0, 0, 0, 0), BAD);
        inEmpty("prove(0, 1)", x -> x.prove(0, 1), BAD);
        inEmpty("row(0, 0)", x -> x.row(0, 0), -9);
        inEmpty("alterRow(0, 0, 0)", x -> x.alterRow(0, 0, 0), -9);
        inEmpty("judge(0)", x -> x.judge(0), BAD);
        inEmpty("minds(0, 0, 0, 0)", x -> x.minds(0, 0, 0, 0), BAD);
        inEmpty("put(0, 0, 0)", x -> x.put(0, 0, 0), -11);
        inEmpty("item(0, 0, 0)", x -> x.item(0, 0, 0), -11);
        inEmpty("shelf(0, 0, 0)", x -> x.shelf(0, 0, 0), BAD);
        inEmpty("again()", SpringOaths::again, NONE);
        inSome("fits by a missing sheet", x -> x.fits(2, 0, 0, 0), -11);
        inSome("minds by a missing sheet", x -> x.minds(2, 0, 0, 0), -11);
        inSome("put on a missing sheet", x -> x.put(2, 0, 0), -11);
        inSome("item of a missing sheet", x -> x.item(2, 0, 0), -11);
        inSome("of the first who isn't there", x -> x.of(3, 0), BAD);
        inSome("the first row that isn't there", x -> x.row(2, 0), -9);
        inSome("the first row that isn't there", x -> x.alterRow(2, 0, 0), -9);
        inSome("beyond the last one", x -> x.minds(0, 0, 2, 2), BAD);
        inSome("no such one, n 0", x -> x.minds(0, 0, 3, 0), BAD);
        inSome("shelf of the first who isn't there", x -> x.shelf(2, 0, 3), BAD);
    }

    private static void everythingFull() {
        inFull("a ninth", x -> x.person(0, 0, 0, 0), FULL);
        inFull("a ninth", x -> x.person(5, 9, 99, 31), FULL);
        for (int n = 1; n <= 8; n++) {
            int many = n;
            inFull("feed " + n + " of 0 left", x -> x.feed(0x2020202020202020L, many), FULL);
        }
        for (int left = 1; left < 8; left++) {
            int bytes = left;
            Supplier<SpringOaths> made = () -> nearlyFull(bytes);
            Moors.changesNothing("feed " + (left + 1) + " of " + left + " left", made,
                x -> x.feed(0x2020202020202020L, bytes + 1), FULL);
            Check.due("feed " + left + " of " + left + " left", made.get().feed(0x2020202020202020L, left), 200);
        }
    }

    private static SpringOaths nearlyFull(int left) {
        SpringOaths x = new SpringOaths();
        StringBuilder text = new StringBuilder("bog 7;");
        while (text.length() < 200 - left) {
            text.append(' ');
        }
        Check.feed(x, text.toString());
        return x;
    }

    private static void noneFound() {
        inSome("nothing is less high", x -> x.lowest(10), NONE);
        inSome("never wet", x -> x.damp(24), NONE);
        inFull("an expert is never lost", x -> x.loss(3), NONE);
        inSome("wet with no sure", x -> x.annoyed(0, 24, 1), NONE);
        inSome("nobody is needed", x -> x.needed(24, 1), NONE);
        inSome("by no set", x -> x.fewest(24, 1), NONE);
        Supplier<SpringOaths> never = () -> {
            SpringOaths x = Moors.some();
            x.bring(2, 24);
            x.put(0, 0, -2);
            return x;
        };
        Moors.changesNothing("never all wet", never, SpringOaths::drowned, NONE);
        Moors.changesNothing("no sure fits", never, x -> x.fits(0, 0, 0, 1), NONE);
        Check.due("how many fit", never.get().fits(0, 0, 0, 0), 0);
    }

    /** "Of several the first named." */
    private static void twoAtOnce() {
        inFull("feed: BAD, FULL", x -> x.feed(0, 9), BAD);
        inFull("feed: BAD, FULL", x -> x.feed(0, 0), BAD);
        inFull("person: BAD, FULL", x -> x.person(6, 0, 0, 0), BAD);
        inFull("person: BAD, FULL", x -> x.person(0, 10, 0, 0), BAD);
        inFull("person: BAD, FULL", x -> x.person(0, 0, 100, 0), BAD);
        inFull("person: BAD, FULL", x -> x.person(0, 0, 0, 32), BAD);
        inSome("fits: BAD (cell), -11", x -> x.fits(2, 32, 0, 0), BAD);
        inSome("fits: BAD (one), -11", x -> x.fits(2, 0, 3, 0), BAD);
        inSome("fits: BAD (what), -11", x -> x.fits(2, 0, 0, 2), BAD);
        inSome("fits: -11, NONE", x -> x.fits(2, 0, 0, 1), -11);
        inSome("minds: BAD (one), -11", x -> x.minds(2, 0, 3, 0), BAD);
        inSome("minds: BAD (n), -11", x -> x.minds(2, 0, 0, 9), BAD);
        inSome("minds: BAD (n), -11", x -> x.minds(2, 0, 0, -1), BAD);
        inSome("minds: BAD (beyond the last), -11", x -> x.minds(2, 0, 2, 2), BAD);
        inSome("minds: BAD (beyond the last), -13", x -> x.minds(1, 0, 2, 2), BAD);
        inSome("minds: BAD (beyond the last), -12", x -> x.minds(0, 6, 2, 2), BAD);
        inSome("minds: -11, -12", x -> x.minds(2, 1, 0, 0), -11);
        inSome("minds: -11, -12", x -> x.minds(2, -1, 0, 1), -11);
        inSome("minds: -13, -12", x -> x.minds(1, 3, 0, 0), -13);
        inSome("minds: -13, -12", x -> x.minds(1, -1, 0, 0), -13);
        inSome("minds: -13, -12", x -> x.minds(1, 1, 0, 2), -13);
        inSome("sheet: BAD (sheet), -14", x -> x.sheet(4, 0, -1), BAD);
        inSome("sheet: BAD (sort), -14", x -> x.sheet(0, 4, -1), BAD);
        inSome("sheet: BAD (sort), -14", x -> x.sheet(0, -2, -1), BAD);
        inSome("put: BAD, -12", x -> x.put(4, -1, 0), BAD);
        inSome("put: -11, -12", x -> x.put(2, -1, 0), -11);
        inSome("put: -11, -12", x -> x.put(2, 40, 0), -11);
        inSome("item: BAD (sort), -11", x -> x.item(2, 4, 0), BAD);
        inSome("item: BAD (sort), -12", x -> x.item(0, -1, 5), BAD);
        inSome("item: BAD (sheet), -12", x -> x.item(-1, 0, -1), BAD);
        inSome("item: -11, -12", x -> x.item(2, 0, -1), -11);
        inSome("item: -13, -12", x -> x.item(0, 1, 5), -13);
        inSome("item: -13, -12", x -> x.item(1, 0, -1), -13);
        inSome("taken: BAD (as), -11", x -> x.taken(3, 6), BAD);
        inSome("taken: BAD (as), -13", x -> x.taken(1, 9), BAD);
        inSome("taken: BAD (shelf), -11", x -> x.taken(4, 0), BAD);
        inSome("damp: BAD, NONE", x -> x.damp(32), BAD);
        inSome("annoyed: BAD (n), NONE", x -> x.annoyed(0, 24, 0), BAD);
        inSome("needed: BAD (n), NONE", x -> x.needed(24, 21), BAD);
        inSome("fewest: BAD (n), NONE", x -> x.fewest(24, 21), BAD);
    }

    /** A refused moor() changes nothing either, but that THE TAPE is used up. */
    private static void refusedTape() {
        String[] texts = {"b", "bog 51;", "bog 3", "sworn at 3;height 1 is 2;spring 1;dowser at 32;", ";", "spring 9;bog 1;9"};
        int[] faults = {0, 4, 5, 44, 0, 15};
        for (int i = 0; i < texts.length; i++) {
            String text = texts[i];
            int due = -100 - faults[i];
            List<Supplier<SpringOaths>> made = List.of(Moors::empty, Moors::some, Moors::full);
            for (Supplier<SpringOaths> one : made) {
                Moors.changesNothing("moor() of '" + text + "'", one, x -> Check.moor(x, text), due);
            }
        }
        SpringOaths x = Moors.empty();
        Check.due("refused", Check.moor(x, "bog 3; b"), -107);
        Check.due("nothing is on the tape", x.many(5), 0);
        Check.due("what was on it isn't read again", x.moor(), 0);
        Check.due("as at first", x.lawOf(2), 20);
        Check.due("room for as many", x.feed(0, 8), 8);
    }

    /** -15 changes nothing but that the latest act() is this one. */
    private static void actPartedByZero() {
        Supplier<SpringOaths> made = () -> {
            SpringOaths x = Moors.someWithTape();
            x.mind(1, 5, 1);
            x.shelf(2, 0, 1);
            return x;
        };
        SpringOaths one = made.get();
        SpringOaths other = made.get();
        Check.due("a by n", one.act(2, 2, 5), -15);
        Check.due("many(6)", one.many(6), 2);
        Check.due("trace(0)", one.trace(0), 61);
        Check.due("trace(1)", one.trace(1), 12);
        one.act(0, 0, 1);
        other.act(0, 0, 1);
        Check.holds("act() that is parted by 0 changes nothing else", Seen.all(one).equals(Seen.all(other)));
    }

    private static void unchanged(String call, Moors.Call asked) {
        for (Supplier<SpringOaths> made : ALL) {
            SpringOaths one = made.get();
            asked.of(one);
            Check.holds(call + " changes nothing", Seen.all(one).equals(Seen.all(made.get())));
        }
    }

    private static void askingChangesNothing() {
        for (int i = 0; i < 8; i++) {
            int n = i;
            unchanged("of(0, " + i + ")", x -> x.of(0, n));
            unchanged("cell(0, " + i + ")", x -> x.cell(0, n));
            unchanged("state(" + i + ")", x -> x.state(n));
            unchanged("many(" + i + ")", x -> x.many(n));
            unchanged("wets(" + i + ")", x -> x.wets(n));
            unchanged("lawOf(" + i + ")", x -> x.lawOf(n));
            unchanged("row(0, " + i + ")", x -> x.row(0, n));
            unchanged("item(0, 0, " + i + ")", x -> x.item(0, 0, n));
            unchanged("taken(0, " + i + ")", x -> x.taken(0, n));
            unchanged("trace(" + i + ")", x -> x.trace(n));
            unchanged("loses(" + i + ")", x -> x.loses(n));
            unchanged("loss(" + i + ")", x -> x.loss(n));
            unchanged("judge(" + i + ")", x -> x.judge(n));
            unchanged("lowest(" + i + ")", x -> x.lowest(n));
            unchanged("ends(" + i + ")", x -> x.ends(n));
            unchanged("damp(" + i + ")", x -> x.damp(n));
            unchanged("odds(8, " + i + ", 0)", x -> x.odds(8, n, 0));
        }
        unchanged("revel(30)", x -> x.revel(30));
        unchanged("level(9, 60)", x -> x.level(9, 60));
        unchanged("drowned()", SpringOaths::drowned);
        unchanged("whereFor(0, 9, 20)", x -> x.whereFor(0, 9, 20));
        unchanged("kindFor(0, 9, 20)", x -> x.kindFor(0, 9, 20));
        unchanged("annoyed(0, 9, 20)", x -> x.annoyed(0, 9, 20));
        unchanged("needed(9, 20)", x -> x.needed(9, 20));
        unchanged("fewest(9, 20)", x -> x.fewest(9, 20));
        unchanged("fits(0, 9, 0, 0)", x -> x.fits(0, 9, 0, 0));
        unchanged("hope(99, 1)", x -> x.hope(99, 1));
    }

    /** "What is asked here is TRIED; nothing changes": each answers the same behind any other. */
    private static void askedInAnyOrder() {
        List<Moors.Call> calls = List.of(x -> x.level(9, 7), x -> x.damp(10), x -> x.loss(0), SpringOaths::drowned,
            x -> x.whereFor(0, 9, 4), x -> x.kindFor(0, 9, 4), x -> x.annoyed(0, 9, 4), x -> x.needed(9, 4),
            x -> x.fewest(9, 4), x -> x.fits(0, 9, 0, 0), x -> x.revel(30), x -> x.judge(1), x -> x.prove(1, 2),
            x -> x.years(1), SpringOaths::year);
        for (Supplier<SpringOaths> made : List.<Supplier<SpringOaths>>of(Moors::some, Moors::full, RefusalTest::marsh)) {
            for (int second = 0; second < calls.size(); second++) {
                long due = calls.get(second).of(made.get());
                // all but the last three, which change something
                for (int first = 0; first < calls.size() - 3; first++) {
                    SpringOaths x = made.get();
                    calls.get(first).of(x);
                    Check.due("call " + second + " behind call " + first, calls.get(second).of(x), due);
                }
            }
        }
    }

    /** Everybody counts: six at a cell that is nearly wet. */
    private static SpringOaths marsh() {
        SpringOaths x = new SpringOaths();
        for (int i = 0; i < 6; i++) {
            x.person(i, 3, 60 - 31 * (i % 2), 9);
        }
        x.water(9, 2);
        x.height(9, 6);
        x.set(2, 1);
        x.sheet(0, 0, 1);
        x.put(0, 0, x.level(9, 1));
        x.prove(1, 2);
        return x;
    }

    private static void seen(String call, Moors.Call asked) {
        SpringOaths one = Moors.some();
        Check.holds(call + " is taken", asked.of(one) > -4);
        Check.holds(call + " is seen", !Seen.all(one).equals(Seen.all(Moors.some())));
    }

    /** Were a refused call to change something, it would be seen: so is whatever is taken. */
    private static void whatIsTakenIsSeen() {
        seen("feed", x -> x.feed(59, 1));
        seen("moor", SpringOaths::moor);
        seen("set", x -> x.set(3, 21));
        seen("person", x -> x.person(0, 0, 0, 0));
        seen("mind", x -> x.mind(2, 2, 4));
        seen("sure", x -> x.sure(2, 1));
        seen("bring", x -> x.bring(2, 11));
        seen("water", x -> x.water(30, 1));
        seen("height", x -> x.height(30, 4));
        seen("years", x -> x.years(1));
        seen("seed", x -> x.seed(78));
        seen("year", SpringOaths::year);
        seen("prove", x -> x.prove(0, 2));
        seen("alterRow", x -> x.alterRow(1, 2, 9));
        seen("minds", x -> x.minds(0, 0, 0, 1));
        seen("sheet", x -> x.sheet(3, 2, 0));
        seen("sheet", x -> x.sheet(0, -1, 0));
        seen("put", x -> x.put(1, 1, 1));
        seen("shelf", x -> x.shelf(3, 0, 0));
        seen("act", x -> x.act(0, 0, 1));
        seen("keep", SpringOaths::keep);
        seen("again", SpringOaths::again);
    }
}
