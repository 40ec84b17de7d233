/** The edges of promises 17 to 21: A YEAR, DRAWS, REVEL, what is told of all. */
public final class YearsEdgeTest {
    private static final int BAD = SpringOaths.BAD;
    private static final int SWORN = 0;
    private static final int ENGINEER = 1;
    private static final int DOUBTER = 2;
    private static final int EXPERT = 3;
    private static final int DOWSER = 4;
    private static final int DRUNKARD = 5;

    public static void main(String[] args) {
        howManyYears();
        wetBehindThem();
        whatIsMoreIsLost();
        seepForEachTwo();
        wellsAsTheYearBegins();
        halfAboveBog();
        noLowest();
        goesByNumbers();
        intoAFullOne();
        wetWhereItEnds();
        loses();
        wins();
        lostForEver();
        seedWraps();
        drawnOne();
        drawnBelowDrink();
        halfIsCut();
        halvedBeforeTheYear();
        nobodyToDraw();
        howManyLost();
        revelRanges();
        revelCounts();
        stateOfNothing();
        stateOfAll();
        Check.end("YearsEdgeTest");
    }

    private static void howManyYears() {
        SpringOaths x = new SpringOaths();
        Check.due("years(0)", x.years(0), BAD);
        Check.due("years(61)", x.years(61), BAD);
        Check.due("years(-1)", x.years(-1), BAD);
        Check.due("state(0)", x.state(0), 0);
        Check.due("years(1)", x.years(1), 0);
        Check.due("state(0)", x.state(0), 1);
        Check.due("years(60)", x.years(60), 0);
        Check.due("state(0)", x.state(0), 61);
        Check.due("refused", x.years(61), BAD);
        Check.due("state(0)", x.state(0), 61);
    }

    /** "How many CELLS are WET then": 10 are, 9 aren't, also where nobody is. */
    private static void wetBehindThem() {
        SpringOaths x = new SpringOaths();
        x.water(31, 10);
        x.water(30, 9);
        x.person(SWORN, 9, 50, 0);
        x.person(SWORN, 5, 50, 1);
        x.person(SWORN, 5, 50, 1);
        Check.due("31 and 1", x.years(1), 2);
        for (int cell = 0; cell < 32; cell++) {
            x.water(cell, 99);
        }
        Check.due("all", x.years(1), 32);
    }

    /** "What would be more is lost": 9 and 90 are all, 10 and 90 aren't. BOG 50 shows what there was before it ran. */
    private static void whatIsMoreIsLost() {
        int[][] cases = {{90, 9, 99}, {91, 9, 99}, {89, 9, 98}, {99, 9, 99}, {99, 0, 99}, {0, 0, 0}};
        for (int[] one : cases) {
            SpringOaths x = new SpringOaths();
            x.person(SWORN, one[1], 99, 9);
            x.water(9, one[0]);
            x.years(1);
            Check.due(one[0] + " and " + one[1], x.cell(9, 0), one[2]);
        }
        SpringOaths x = new SpringOaths();
        x.set(2, 50);
        x.height(9, 6);
        x.water(9, 98);
        x.person(ENGINEER, 9, 99, 9);
        x.years(1);
        Check.due("24 of 49 went", x.cell(9, 0), 75);
        Check.due("24 came", x.cell(1, 0), 24);
    }

    private static void seepForEachTwo() {
        SpringOaths x = new SpringOaths();
        x.set(1, 9);
        for (int i = 0; i < 8; i++) {
            x.person(SWORN, 0, i < 4 ? 1 : 31, 9);
        }
        x.years(1);
        Check.due("sixteen pairs, 144, held to 99", x.cell(9, 0), 99);
        SpringOaths y = new SpringOaths();
        y.person(SWORN, 0, 1, 9);
        y.person(SWORN, 0, 31, 9);
        y.person(SWORN, 0, 30, 9);
        y.person(SWORN, 0, 0, 9);
        y.person(SWORN, 0, 99, 10);
        y.years(1);
        Check.due("one pair", y.cell(9, 0), 3);
        y.set(1, 0);
        y.water(9, 0);
        y.years(1);
        Check.due("seep 0", y.cell(9, 0), 0);
    }

    /** Who loses it in this YEAR has welled; who wins it hasn't; the drunkard goes by the YEAR that it was. */
    private static void wellsAsTheYearBegins() {
        SpringOaths x = new SpringOaths();
        x.water(0, 5);
        x.person(SWORN, 5, 50, 0);
        x.person(SWORN, 5, 49, 1);
        x.person(DRUNKARD, 5, 99, 2);
        x.years(1);
        Check.due("5 and 5", x.cell(0, 0), 10);
        Check.due("wet then", x.of(0, 2), 40);
        Check.due("not yet", x.cell(1, 0), 0);
        Check.due("sure then", x.of(1, 2), 52);
        Check.due("in year 0", x.cell(2, 0), 5);
        x.years(1);
        Check.due("no more", x.cell(0, 0), 10);
        Check.due("now", x.cell(1, 0), 5);
        Check.due("in year 1", x.cell(2, 0), 5);
    }

    private static void runs(int bog, int water, int goes) {
        SpringOaths x = new SpringOaths();
        x.set(2, bog);
        x.height(9, 6);
        x.water(9, water);
        x.years(1);
        Check.due(water + " above " + bog, x.cell(9, 0), water - goes);
        Check.due("comes", x.cell(1, 0), goes);
        Check.due("none is lost", x.state(1), water);
    }

    /** "Half of what its WATER is above BOG (cut)". */
    private static void halfAboveBog() {
        runs(20, 0, 0);
        runs(20, 19, 0);
        runs(20, 20, 0);
        runs(20, 21, 0);
        runs(20, 22, 1);
        runs(20, 23, 1);
        runs(20, 24, 2);
        runs(50, 0, 0);
        runs(50, 49, 0);
        runs(50, 51, 0);
        runs(50, 52, 1);
        runs(50, 99, 24);
        runs(0, 0, 0);
        runs(0, 1, 0);
        runs(0, 2, 1);
        runs(0, 99, 49);
    }

    private static void noLowest() {
        SpringOaths x = new SpringOaths();
        x.set(2, 0);
        for (int cell = 0; cell < 32; cell++) {
            x.water(cell, 99 - cell);
        }
        x.years(60);
        for (int cell = 0; cell < 32; cell++) {
            Check.due("cell(" + cell + ", 0)", x.cell(cell, 0), 99 - cell);
        }
    }

    /** "Of each CELL, by numbers": what comes to a later one goes on in the same YEAR. */
    private static void goesByNumbers() {
        SpringOaths up = new SpringOaths();
        up.set(2, 0);
        up.height(0, 9);
        up.height(1, 8);
        up.height(2, 7);
        up.height(8, 9);
        up.height(9, 9);
        up.height(10, 9);
        up.height(3, 9);
        up.water(0, 96);
        up.years(1);
        int[] waters = {48, 24, 24};
        for (int cell = 0; cell < 3; cell++) {
            Check.due("up the numbers, " + cell, up.cell(cell, 0), waters[cell]);
        }
        SpringOaths down = new SpringOaths();
        down.set(2, 0);
        down.height(2, 9);
        down.height(1, 4);
        down.height(0, 3);
        down.water(2, 96);
        down.years(1);
        Check.due("down the numbers, 2", down.cell(2, 0), 48);
        Check.due("down the numbers, 1", down.cell(1, 0), 48);
        Check.due("down the numbers, 0", down.cell(0, 0), 0);
        down.years(1);
        Check.due("a year later", down.cell(0, 0), 24);
    }

    private static void intoAFullOne() {
        SpringOaths x = new SpringOaths();
        x.height(0, 6);
        x.height(1, 4);
        x.water(0, 40);
        x.water(1, 95);
        x.years(1);
        Check.due("ten went", x.cell(0, 0), 30);
        Check.due("four came", x.cell(1, 0), 99);
        x.years(1);
        Check.due("five went", x.cell(0, 0), 25);
        Check.due("none came", x.cell(1, 0), 99);
    }

    /** WET or not behind all that went: 10 and 9 at the end of the YEAR. */
    private static void wetWhereItEnds() {
        SpringOaths x = new SpringOaths();
        x.set(2, 0);
        x.height(0, 6);
        x.water(0, 18);
        x.person(SWORN, 0, 60, 0);
        x.person(SWORN, 0, 60, 1);
        x.years(1);
        Check.due("9 is left", x.of(0, 2), 63);
        Check.due("9 came", x.of(1, 2), 63);
        x.water(0, 20);
        x.water(1, 0);
        x.years(1);
        Check.due("10 is left", x.of(0, 2), 53);
        Check.due("10 came", x.of(1, 2), 53);
    }

    private static void behindAYear(int kind, int sense, int sure, int water, int due) {
        SpringOaths x = new SpringOaths();
        x.set(0, 0);
        x.person(kind, sense, sure, 3);
        x.water(3, water);
        x.years(1);
        Check.due("kind " + kind + " of " + sense + ", " + sure + " in " + water, x.of(0, 2), due);
    }

    /** "Held to 0 to 99", from both sides. */
    private static void loses() {
        behindAYear(SWORN, 0, 11, 10, 1);
        behindAYear(SWORN, 0, 10, 10, 0);
        behindAYear(SWORN, 0, 9, 10, 0);
        behindAYear(SWORN, 0, 1, 99, 0);
        behindAYear(ENGINEER, 0, 6, 10, 1);
        behindAYear(ENGINEER, 0, 5, 10, 0);
        behindAYear(ENGINEER, 0, 4, 10, 0);
        behindAYear(DOUBTER, 9, 20, 10, 1);
        behindAYear(DOUBTER, 9, 19, 10, 0);
        behindAYear(EXPERT, 0, 1, 10, 1);
        behindAYear(EXPERT, 0, 99, 10, 99);
        behindAYear(DOWSER, 5, 40, 10, 40);
        behindAYear(DOWSER, 9, 5, 10, 1);
        behindAYear(DOWSER, 9, 4, 10, 0);
        behindAYear(DOWSER, 0, 93, 10, 98);
        behindAYear(DOWSER, 0, 94, 10, 99);
        behindAYear(DOWSER, 0, 95, 10, 99);
        behindAYear(DOWSER, 4, 99, 10, 99);
        behindAYear(DRUNKARD, 0, 31, 10, 1);
        behindAYear(DRUNKARD, 0, 30, 10, 0);
        behindAYear(DRUNKARD, 0, 29, 10, 0);
    }

    private static void wins() {
        behindAYear(SWORN, 0, 95, 9, 98);
        behindAYear(SWORN, 0, 96, 9, 99);
        behindAYear(SWORN, 0, 97, 9, 99);
        behindAYear(ENGINEER, 0, 94, 9, 99);
        behindAYear(ENGINEER, 0, 95, 9, 99);
        behindAYear(DOUBTER, 0, 98, 0, 99);
        behindAYear(DOUBTER, 0, 99, 0, 99);
        behindAYear(EXPERT, 0, 93, 9, 98);
        behindAYear(EXPERT, 0, 99, 9, 99);
        behindAYear(DOWSER, 0, 97, 9, 98);
        behindAYear(DOWSER, 0, 1, 9, 2);
        behindAYear(DRUNKARD, 0, 99, 9, 99);
        behindAYear(DRUNKARD, 0, 1, 9, 1);
    }

    /** "Who aren't LOST": who is wins nothing more, in a dry CELL or by a loss below 0. */
    private static void lostForEver() {
        for (int kind = 0; kind < 6; kind++) {
            behindAYear(kind, 0, 0, 0, 0);
            behindAYear(kind, 0, 0, 10, 0);
        }
    }

    /** "z (an int; 1 at first) becomes z * 1103515245 + 12345", wrapping around. */
    private static void seedWraps() {
        int[] seeds = {1, 0, -1, Integer.MAX_VALUE, Integer.MIN_VALUE, 65535, 65536, -65536};
        for (int seed : seeds) {
            SpringOaths x = new SpringOaths();
            x.person(EXPERT, 0, 99, 0);
            Check.due("seed(" + seed + ")", x.seed(seed), 1);
            x.year();
            long z = (seed * 1103515245L + 12345) * 1103515245L + 12345;
            Check.due("z, two draws on from " + seed, x.seed(seed), (int) z);
        }
    }

    private static int next(int z) {
        return z * 1103515245 + 12345;
    }

    /** "z >>> 16 is drawn; the one that it leaves by how many there are": the first and the last, of 1 to 8. */
    private static void drawnOne() {
        for (int people = 1; people <= 8; people++) {
            for (int seed = -30; seed < 30; seed++) {
                SpringOaths x = new SpringOaths();
                x.set(3, 99);
                for (int i = 0; i < people; i++) {
                    x.person(DRUNKARD, 0, 80, i);
                }
                x.seed(seed * 40503);
                int first = next(seed * 40503) >>> 16;
                int second = next(next(seed * 40503)) >>> 16;
                x.year();
                for (int i = 0; i < people; i++) {
                    boolean half = first % people == i && second % 100 < 99;
                    Check.due("one " + i + " of " + people, x.of(i, 2), half ? 40 : 80);
                }
            }
        }
    }

    /** A seed whose second draw leaves that by 100. */
    private static int seedLeaving(int rest) {
        int seed = 0;
        while ((next(next(seed)) >>> 16) % 100 != rest) {
            seed++;
        }
        return seed;
    }

    /** "If what that leaves by 100 is below DRINK": not if it is DRINK; never for 0. */
    private static void drawnBelowDrink() {
        for (int drink : new int[] {0, 1, 20, 50, 98, 99}) {
            for (int rest = drink - 1; rest <= drink + 1; rest++) {
                if (rest >= 0 && rest < 100) {
                    SpringOaths x = new SpringOaths();
                    x.person(DRUNKARD, 0, 80, 0);
                    x.set(3, drink);
                    x.seed(seedLeaving(rest));
                    x.year();
                    Check.due(rest + " below " + drink, x.of(0, 2), rest < drink ? 40 : 80);
                }
            }
        }
    }

    /** "SURE of that one is half (cut)": of 1 that is LOST. */
    private static void halfIsCut() {
        int[] sures = {0, 1, 2, 3, 98, 99};
        int[] halves = {0, 0, 1, 1, 49, 49};
        for (int i = 0; i < sures.length; i++) {
            SpringOaths x = new SpringOaths();
            x.person(DRUNKARD, 0, sures[i], 0);
            x.set(3, 1);
            x.seed(seedLeaving(0));
            Check.due("year()", x.year(), halves[i] == 0 ? 1 : 0);
            Check.due("half of " + sures[i], x.of(0, 2), halves[i]);
        }
    }

    /** "Then a YEAR": what one WELLS, and whether one DISAGREES, goes by the half. */
    private static void halvedBeforeTheYear() {
        SpringOaths x = new SpringOaths();
        x.person(SWORN, 9, 98, 0);
        x.set(3, 1);
        x.seed(seedLeaving(0));
        x.year();
        Check.due("49 wells nothing", x.cell(0, 0), 0);
        Check.due("and wins", x.of(0, 2), 52);
        SpringOaths y = new SpringOaths();
        y.person(SWORN, 9, 99, 0);
        y.set(3, 1);
        y.seed(seedLeaving(1));
        y.year();
        Check.due("99 wells", y.cell(0, 0), 9);
    }

    /** "If there are PEOPLE": without them z stays, but it is a YEAR. */
    private static void nobodyToDraw() {
        SpringOaths x = new SpringOaths();
        x.seed(1234);
        x.water(0, 30);
        x.height(0, 6);
        Check.due("year()", x.year(), 0);
        Check.due("z", x.seed(1234), 1234);
        Check.due("state(0)", x.state(0), 1);
        Check.due("it ran", x.cell(0, 0), 25);
        Check.due("revel(30)", x.revel(30), 0);
        Check.due("z", x.seed(0), 1234);
    }

    /** "How many are LOST then", those who were too. */
    private static void howManyLost() {
        SpringOaths x = new SpringOaths();
        x.set(3, 0);
        for (int i = 0; i < 8; i++) {
            x.person(SWORN, 0, i < 3 ? 0 : i < 5 ? 10 : 21, 0);
        }
        x.set(1, 0);
        x.water(0, 10);
        Check.due("three and two", x.year(), 5);
        Check.due("all but three", x.state(2), 31);
        Check.due("none more", x.year(), 5);
        Check.due("all", x.year(), 8);
        Check.due("all", x.year(), 8);
    }

    private static void revelRanges() {
        SpringOaths x = new SpringOaths();
        x.set(3, 0);
        x.person(SWORN, 0, 10, 0);
        x.water(0, 10);
        Check.due("revel(0)", x.revel(0), BAD);
        Check.due("revel(31)", x.revel(31), BAD);
        Check.due("revel(-1)", x.revel(-1), BAD);
        for (int n = 1; n <= 30; n++) {
            Check.due("each of " + n, x.revel(n), n);
        }
        x.sure(0, 11);
        Check.due("in none", x.revel(30), 0);
        x.sure(0, 0);
        Check.due("not more than now", x.revel(30), 0);
    }

    /** "Each tried from how all is now (z alone goes on)". */
    private static void revelCounts() {
        for (int seed : new int[] {1, 77, -5, Integer.MAX_VALUE}) {
            SpringOaths x = new SpringOaths();
            x.set(3, 50);
            x.person(DRUNKARD, 0, 1, 0);
            x.person(DRUNKARD, 0, 1, 1);
            x.person(DRUNKARD, 0, 2, 2);
            x.seed(seed);
            int z = seed;
            int found = 0;
            for (int n = 1; n <= 30; n++) {
                z = next(z);
                boolean one = (z >>> 16) % 3 < 2;
                z = next(z);
                found += one && (z >>> 16) % 100 < 50 ? 1 : 0;
                Check.due("revel(" + n + ") from " + seed, x.revel(n), found);
            }
            Check.due("z neither", x.seed(0), seed);
            Check.due("nothing changes", x.state(3), 4);
            Check.due("nothing changes", x.state(0), 0);
        }
    }

    private static void stateOfNothing() {
        SpringOaths x = new SpringOaths();
        for (int what = 0; what < 5; what++) {
            Check.due("state(" + what + ")", x.state(what), 0);
        }
        Check.due("state(5)", x.state(5), BAD);
        Check.due("state(-1)", x.state(-1), BAD);
    }

    private static void stateOfAll() {
        SpringOaths x = new SpringOaths();
        for (int cell = 0; cell < 32; cell++) {
            x.water(cell, 99);
        }
        for (int i = 0; i < 8; i++) {
            x.person(SWORN, 0, 99, i);
        }
        Check.due("all water", x.state(1), 3168);
        Check.due("nobody lost", x.state(2), 0);
        Check.due("all sure", x.state(3), 792);
        Check.due("pairs", x.state(4), 0);
        for (int i = 0; i < 8; i++) {
            x.sure(i, 0);
        }
        Check.due("all lost", x.state(2), 255);
        Check.due("none sure", x.state(3), 0);
        Check.due("many(2)", x.many(2), 8);
        x.years(60);
        Check.due("state(0)", x.state(0), 60);
    }
}
