/** The edges of promises 12 to 16, 31 and 47: CELLS, who is AT them, where WATER goes. */
public final class CellEdgeTest {
    private static final int BAD = SpringOaths.BAD;
    private static final int NONE = SpringOaths.NONE;

    public static void main(String[] args) {
        firstAndLastCell();
        nothingAtACell();
        waterRanges();
        heightRanges();
        wetFromTen();
        besideAtTheEdges();
        lessThanItsOwn();
        ofSeveralTheLeast();
        heightsFarAndNear();
        setsOfAll();
        endsAtOnce();
        theLongestWay();
        endsByTheLeast();
        cellRefuses();
        Check.end("CellEdgeTest");
    }

    private static void firstAndLastCell() {
        SpringOaths x = new SpringOaths();
        for (int cell : new int[] {0, 31}) {
            Check.due("water", x.water(cell, 99), 0);
            Check.due("height", x.height(cell, 9), 5);
            Check.due("person", x.person(1, 4, 99, cell), cell / 31 * 2);
            Check.due("person", x.person(0, 4, 69, cell), cell / 31 * 2 + 1);
            int[] due = {99, 9, cell == 0 ? 3 : 12, 12, 1};
            for (int what = 0; what < 5; what++) {
                Check.due("cell(" + cell + ", " + what + ")", x.cell(cell, what), due[what]);
            }
        }
    }

    private static void nothingAtACell() {
        SpringOaths x = Moors.full();
        for (int what = 2; what < 5; what++) {
            Check.due("cell(17, " + what + ")", x.cell(17, what), 0);
        }
        SpringOaths y = new SpringOaths();
        y.person(0, 9, 99, 4);
        Check.due("one doesn't disagree", y.cell(4, 4), 0);
        Check.due("who is there", y.cell(4, 2), 1);
    }

    private static void waterRanges() {
        SpringOaths x = new SpringOaths();
        for (int cell : new int[] {0, 31}) {
            int was = 0;
            for (int v : new int[] {0, 99, 98, 1}) {
                Check.due("water(" + cell + ", " + v + ")", x.water(cell, v), was);
                Check.due("water 100", x.water(cell, 100), BAD);
                Check.due("water -1", x.water(cell, -1), BAD);
                Check.due("cell(" + cell + ", 0)", x.cell(cell, 0), v);
                was = v;
            }
        }
        Check.due("cell 32", x.water(32, 1), BAD);
        Check.due("cell -1", x.water(-1, 1), BAD);
        Check.due("no other cell", x.state(1), 2);
    }

    private static void heightRanges() {
        SpringOaths x = new SpringOaths();
        for (int cell : new int[] {0, 31}) {
            int was = 5;
            for (int v : new int[] {0, 9, 8, 1}) {
                Check.due("height(" + cell + ", " + v + ")", x.height(cell, v), was);
                Check.due("height 10", x.height(cell, 10), BAD);
                Check.due("height -1", x.height(cell, -1), BAD);
                Check.due("cell(" + cell + ", 1)", x.cell(cell, 1), v);
                was = v;
            }
        }
        Check.due("cell 32", x.height(32, 1), BAD);
        Check.due("cell -1", x.height(-1, 1), BAD);
        for (int cell = 1; cell < 31; cell++) {
            Check.due("no other cell", x.cell(cell, 1), 5);
        }
    }

    private static void wetFromTen() {
        SpringOaths x = new SpringOaths();
        for (int cell = 0; cell < 32; cell++) {
            x.water(cell, 9);
            Check.due("9 in " + cell, x.wets(0), 0);
            Check.due("many(1)", x.many(1), 0);
            x.water(cell, 10);
            Check.due("10 in " + cell, x.wets(0), 1L << cell);
            Check.due("many(1)", x.many(1), 1);
            x.water(cell, 0);
        }
    }

    private static void pit(int cell, int... beside) {
        SpringOaths x = new SpringOaths();
        x.height(cell, 0);
        long from = 0;
        for (int other : beside) {
            from |= 1L << other;
        }
        for (int other = 0; other < 32; other++) {
            Check.due("lowest(" + other + ") by " + cell, x.lowest(other), (from >> other & 1) != 0 ? cell : NONE);
        }
        Check.due("those without", x.wets(2), 0xFFFFFFFFL & ~from);
    }

    /** The end of a row isn't beside the next row's begin, nor are corners. */
    private static void besideAtTheEdges() {
        pit(0, 1, 8);
        pit(7, 6, 15);
        pit(8, 0, 9, 16);
        pit(15, 7, 14, 23);
        pit(16, 8, 17, 24);
        pit(23, 15, 22, 31);
        pit(24, 16, 25);
        pit(31, 23, 30);
        pit(4, 3, 5, 12);
        pit(28, 20, 27, 29);
        pit(10, 2, 9, 11, 18);
    }

    /** Not one of the same HEIGHT; the lowest of all has none. */
    private static void lessThanItsOwn() {
        SpringOaths x = new SpringOaths();
        Check.due("all alike", x.lowest(10), NONE);
        x.height(10, 6);
        Check.due("one more", x.lowest(10), 2);
        x.height(10, 4);
        Check.due("one less", x.lowest(10), NONE);
        Check.due("who is beside it", x.lowest(11), 10);
        x.height(10, 0);
        x.height(11, 0);
        Check.due("0 and 0", x.lowest(10), NONE);
        Check.due("0 and 0", x.lowest(11), NONE);
        x.height(10, 1);
        Check.due("1 and 0", x.lowest(10), 11);
        x.height(10, 9);
        x.height(11, 9);
        Check.due("9 and 9", x.lowest(10), 2);
        Check.due("9 and 9", x.lowest(11), 3);
    }

    /** "The one of least HEIGHT; of several the least" number. */
    private static void ofSeveralTheLeast() {
        int[] beside = {2, 9, 11, 18};
        for (int set = 1; set < 16; set++) {
            SpringOaths x = new SpringOaths();
            int least = -1;
            for (int i = 0; i < 4; i++) {
                boolean low = (set >> i & 1) != 0;
                x.height(beside[i], low ? 3 : 4);
                least = low && least < 0 ? beside[i] : least;
            }
            Check.due("lowest(10) by " + set, x.lowest(10), least);
        }
        SpringOaths x = new SpringOaths();
        x.height(10, 9);
        Check.due("all four alike", x.lowest(10), 2);
    }

    private static void heightsFarAndNear() {
        SpringOaths x = new SpringOaths();
        x.height(10, 9);
        x.height(12, 0);
        x.height(26, 0);
        x.height(1, 0);
        x.height(19, 0);
        Check.due("those two away don't count", x.lowest(10), 2);
        Check.due("ends goes on", x.ends(10), 1);
    }

    /** "Sets are told by bits (those of CELLS as a long)": cell 31 is no sign. */
    private static void setsOfAll() {
        SpringOaths x = new SpringOaths();
        Check.due("none wet", x.wets(0), 0);
        Check.due("nobody", x.wets(1), 0);
        Check.due("all without a lowest", x.wets(2), 4294967295L);
        for (int cell = 0; cell < 32; cell++) {
            x.water(cell, 99);
            x.height(cell, 9 - cell % 8 - cell / 8 % 2);
        }
        Check.due("all wet", x.wets(0), 4294967295L);
        Check.due("many(1)", x.many(1), 32);
        Check.due("all water", x.state(1), 3168);
        for (int i = 0; i < 8; i++) {
            x.person(0, 0, 99, 24 + i);
        }
        Check.due("a row of people", x.wets(1), 0xFF000000L);
        Check.due("all sure", x.state(3), 792);
        Check.due("two pits", x.wets(2), 1L << 15 | 1L << 31);
        Check.due("many(3)", x.many(3), 2);
        Check.due("wets(3)", x.wets(3), BAD);
        Check.due("wets(-1)", x.wets(-1), BAD);
    }

    /** Who has no LOWEST stays where it is. */
    private static void endsAtOnce() {
        SpringOaths x = new SpringOaths();
        for (int cell = 0; cell < 32; cell++) {
            Check.due("ends(" + cell + ")", x.ends(cell), cell);
        }
        Check.due("ends(32)", x.ends(32), BAD);
        Check.due("ends(-1)", x.ends(-1), BAD);
        x.height(31, 0);
        Check.due("one step", x.ends(30), 31);
        Check.due("the pit", x.ends(31), 31);
        Check.due("further off", x.ends(29), 29);
        x.height(0, 0);
        Check.due("to cell 0", x.ends(1), 0);
        Check.due("to cell 0", x.ends(8), 0);
        Check.due("in cell 0", x.ends(0), 0);
    }

    /** From HEIGHT 9 to HEIGHT 0 by nine steps. */
    private static void theLongestWay() {
        SpringOaths x = new SpringOaths();
        int[] way = {0, 1, 2, 3, 4, 5, 6, 7, 15, 23};
        for (int cell = 8; cell < 32; cell++) {
            x.height(cell, 9);
        }
        for (int i = 0; i < 10; i++) {
            x.height(way[i], 9 - i);
        }
        for (int i = 0; i < 9; i++) {
            Check.due("lowest(" + way[i] + ")", x.lowest(way[i]), way[i + 1]);
            Check.due("ends(" + way[i] + ")", x.ends(way[i]), 23);
        }
        Check.due("lowest(23)", x.lowest(23), NONE);
        x.height(15, 2);
        Check.due("cut off", x.ends(0), 7);
        Check.due("beyond", x.ends(15), 23);
    }

    /** It goes to the LOWEST at each step, not to where one would come lowest. */
    private static void endsByTheLeast() {
        SpringOaths x = new SpringOaths();
        x.height(9, 3);
        x.height(11, 4);
        x.height(12, 0);
        Check.due("ends(10)", x.ends(10), 9);
        x.height(11, 3);
        Check.due("the least of two", x.ends(10), 9);
        x.height(11, 2);
        Check.due("and on", x.ends(10), 12);
    }

    private static void cellRefuses() {
        SpringOaths x = new SpringOaths();
        Check.due("cell(0, 5)", x.cell(0, 5), BAD);
        Check.due("cell(0, -1)", x.cell(0, -1), BAD);
        Check.due("cell(32, 1)", x.cell(32, 1), BAD);
        Check.due("cell(-1, 1)", x.cell(-1, 1), BAD);
        Check.due("cell(32, 5)", x.cell(32, 5), BAD);
        Check.due("lowest(32)", x.lowest(32), BAD);
        Check.due("lowest(-1)", x.lowest(-1), BAD);
    }
}
