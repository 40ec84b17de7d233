/** Promises 17 to 21: YEARS, and YEARS BY DRAWS. */
public final class YearsTest {
    private static final int BAD = SpringOaths.BAD;

    public static void main(String[] args) {
        wellAndSeep();
        asTheYearBegins();
        waterRunsDown();
        waterIsLost();
        mindsChange();
        sureIsHeld();
        years();
        seed();
        yearByDraws();
        nobodyDraws();
        revel();
        state();
        Check.end("YearsTest");
    }

    private static void wellAndSeep() {
        SpringOaths x = new SpringOaths();
        x.person(0, 4, 90, 6);
        x.person(0, 3, 60, 6);
        x.person(0, 2, 30, 6);
        x.person(0, 9, 0, 6);
        x.person(0, 9, 99, 7);
        Check.due("years(1)", x.years(1), 1);
        Check.due("4 + 3 and three who disagree", x.cell(6, 0), 16);
        Check.due("cell(7, 0)", x.cell(7, 0), 9);
        Check.due("state(0)", x.state(0), 1);
    }

    private static void asTheYearBegins() {
        SpringOaths x = new SpringOaths();
        x.person(5, 9, 50, 0);
        x.years(1);
        Check.due("a drunkard in year 0", x.cell(0, 0), 9);
        x.years(1);
        Check.due("a drunkard in year 1", x.cell(0, 0), 9);
        x.years(1);
        Check.due("a drunkard in year 2", x.cell(0, 0), 18);
        Check.due("who lost 30 in a wet cell", x.of(0, 2), 20);
    }

    private static void waterRunsDown() {
        SpringOaths x = new SpringOaths();
        x.height(0, 9);
        x.height(1, 8);
        x.height(2, 7);
        x.height(9, 9);
        x.height(10, 9);
        x.height(8, 9);
        x.height(3, 9);
        x.water(0, 61);
        x.water(2, 20);
        x.water(20, 99);
        Check.due("years(1)", x.years(1), 2 + 2);
        // 41 above BOG: 20 go to cell 1, none of those is above BOG there
        Check.due("cell(0, 0)", x.cell(0, 0), 41);
        Check.due("cell(1, 0)", x.cell(1, 0), 20);
        Check.due("cell(2, 0)", x.cell(2, 0), 20);
        Check.due("a hollow keeps its water", x.cell(20, 0), 99);
        x.set(2, 0);
        x.years(1);
        // 20 of 41; 20 of 40; 20 of 40, which cell 2 would pass on to a lower one
        Check.due("cell(0, 0)", x.cell(0, 0), 21);
        Check.due("cell(1, 0)", x.cell(1, 0), 20);
        Check.due("cell(2, 0)", x.cell(2, 0), 40);
        x.height(1, 9);
        x.height(0, 8);
        x.water(0, 0);
        x.water(1, 50);
        x.years(1);
        Check.due("up the numbers it goes on in the same year, down them it waits", x.cell(2, 0), 65);
        x.height(2, 9);
        x.water(1, 50);
        x.water(0, 0);
        x.years(1);
        Check.due("down the numbers", x.cell(0, 0), 25);
    }

    private static void waterIsLost() {
        SpringOaths x = new SpringOaths();
        x.set(2, 50);
        x.height(0, 4);
        x.water(0, 95);
        x.water(1, 96);
        x.person(1, 9, 99, 0);
        x.person(0, 9, 99, 1);
        x.years(1);
        Check.due("above 99 before it runs", x.cell(1, 0), 75);
        Check.due("above 99 where it runs to", x.cell(0, 0), 99);
    }

    private static void mindsChange() {
        int[] dry = {53, 55, 51, 55, 51, 50};
        int[] wet = {40, 45, 35, 50, 50, 20};
        SpringOaths x = new SpringOaths();
        x.set(0, 0);
        for (int kind = 0; kind < 6; kind++) {
            x.person(kind, 5, 50, kind);
            x.mind(kind, kind, kind == 2 || kind == 4 ? 5 : 0);
        }
        x.years(1);
        for (int kind = 0; kind < 6; kind++) {
            Check.due("in a dry cell, kind " + kind, x.of(kind, 2), dry[kind]);
            x.sure(kind, 50);
            x.water(kind, 10);
        }
        x.years(1);
        for (int kind = 0; kind < 6; kind++) {
            Check.due("in a wet cell, kind " + kind, x.of(kind, 2), wet[kind]);
        }
        x.person(4, 0, 50, 9);
        x.water(9, 10);
        x.years(1);
        Check.due("a dowser without sense loses -5", x.of(6, 2), 55);
        x.sure(6, 0);
        x.years(1);
        Check.due("the lost stay lost", x.of(6, 2), 0);
        x.water(9, 0);
        x.years(1);
        Check.due("the lost stay lost", x.of(6, 2), 0);
    }

    private static void sureIsHeld() {
        SpringOaths x = new SpringOaths();
        x.person(0, 0, 98, 0);
        x.person(0, 0, 9, 1);
        x.person(4, 0, 97, 2);
        x.water(1, 10);
        x.water(2, 10);
        x.years(1);
        Check.due("held to 99", x.of(0, 2), 99);
        Check.due("held to 0", x.of(1, 2), 0);
        Check.due("held to 99, less -5", x.of(2, 2), 99);
    }

    private static void years() {
        SpringOaths x = new SpringOaths();
        Check.due("years(0)", x.years(0), BAD);
        Check.due("years(61)", x.years(61), BAD);
        Check.due("years(-1)", x.years(-1), BAD);
        Check.due("state(0)", x.state(0), 0);
        x.person(3, 0, 0, 3);
        Check.due("years(4)", x.years(4), 0);
        Check.due("years(1)", x.years(1), 1);
        Check.due("years(60)", x.years(60), 1);
        Check.due("state(0)", x.state(0), 65);
        Check.due("cell(3, 0)", x.cell(3, 0), 99);
    }

    private static void seed() {
        SpringOaths x = new SpringOaths();
        Check.due("seed(-7)", x.seed(-7), 1);
        Check.due("seed(max)", x.seed(Integer.MAX_VALUE), -7);
        Check.due("seed(min)", x.seed(Integer.MIN_VALUE), Integer.MAX_VALUE);
        Check.due("seed(0)", x.seed(0), Integer.MIN_VALUE);
    }

    private static void yearByDraws() {
        int z = 5;
        SpringOaths x = new SpringOaths();
        x.seed(z);
        x.set(3, 50);
        int[] sures = {99, 60, 33, 1, 0};
        for (int i = 0; i < 5; i++) {
            x.person(3, 0, sures[i], i);
            x.water(i, 10);
        }
        // experts lose nothing in a wet cell, so that draws alone change their minds
        for (int year = 1; year <= 30; year++) {
            z = z * 1103515245 + 12345;
            int one = (z >>> 16) % 5;
            z = z * 1103515245 + 12345;
            if ((z >>> 16) % 100 < 50) {
                sures[one] /= 2;
            }
            int lost = 0;
            for (int i = 0; i < 5; i++) {
                lost += sures[i] == 0 ? 1 : 0;
            }
            Check.due("year()", x.year(), lost);
            for (int i = 0; i < 5; i++) {
                Check.due("of(" + i + ", 2)", x.of(i, 2), sures[i]);
            }
            Check.due("state(0)", x.state(0), year);
        }
        Check.due("seed", x.seed(0), z);
    }

    private static void nobodyDraws() {
        SpringOaths x = new SpringOaths();
        x.water(3, 77);
        x.height(3, 9);
        Check.due("year()", x.year(), 0);
        Check.due("state(0)", x.state(0), 1);
        Check.due("cell(3, 0)", x.cell(3, 0), 49);
        Check.due("revel(30)", x.revel(30), 0);
        Check.due("z without draws", x.seed(1), 1);
    }

    private static void revel() {
        SpringOaths x = new SpringOaths();
        Check.due("revel(0)", x.revel(0), BAD);
        Check.due("revel(31)", x.revel(31), BAD);
        x.set(3, 99);
        x.person(3, 0, 1, 0);
        x.person(3, 0, 99, 1);
        x.person(3, 0, 0, 2);
        x.water(0, 10);
        x.water(1, 10);
        int z = 1;
        int want = 0;
        for (int i = 1; i <= 30; i++) {
            z = z * 1103515245 + 12345;
            boolean first = (z >>> 16) % 3 == 0;
            z = z * 1103515245 + 12345;
            want += first && (z >>> 16) % 100 < 99 ? 1 : 0;
            Check.due("revel(" + i + ")", x.revel(i), want);
        }
        Check.due("revel(30)", x.revel(30), want);
        Check.holds("some but not all revel", want > 0 && want < 30);
        Check.due("again the same", x.revel(30), want);
        Check.due("z stays", x.seed(1), 1);
        Check.due("sure stays", x.of(0, 2), 1);
        Check.due("year stays", x.state(0), 0);
    }

    private static void state() {
        SpringOaths x = new SpringOaths();
        x.person(0, 0, 90, 5);
        x.person(0, 0, 0, 5);
        x.person(0, 0, 9, 5);
        x.person(0, 0, 0, 5);
        x.person(0, 0, 50, 6);
        x.water(0, 99);
        x.water(31, 98);
        Check.due("state(0)", x.state(0), 0);
        Check.due("state(1)", x.state(1), 197);
        Check.due("state(2)", x.state(2), 10);
        Check.due("state(3)", x.state(3), 149);
        Check.due("state(4)", x.state(4), 1);
        Check.due("state(5)", x.state(5), BAD);
        Check.due("state(-1)", x.state(-1), BAD);
    }
}
