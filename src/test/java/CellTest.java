/** Promises 12 to 16, and 31: CELLS, their LOWEST and their ENDS. */
public final class CellTest {
    private static final int BAD = SpringOaths.BAD;
    private static final int NONE = SpringOaths.NONE;

    public static void main(String[] args) {
        cell();
        lowest();
        lowestOfSeveral();
        ends();
        water();
        height();
        wets();
        Check.end("CellTest");
    }

    private static void cell() {
        SpringOaths x = new SpringOaths();
        x.person(0, 4, 90, 6);
        x.person(1, 3, 55, 6);
        x.person(3, 3, 5, 6);
        x.person(0, 9, 90, 7);
        x.water(6, 12);
        x.height(6, 8);
        Check.due("cell(6, 0)", x.cell(6, 0), 12);
        Check.due("cell(6, 1)", x.cell(6, 1), 8);
        Check.due("cell(6, 2)", x.cell(6, 2), 7);
        Check.due("cell(6, 3)", x.cell(6, 3), 12);
        Check.due("cell(6, 4)", x.cell(6, 4), 3);
        Check.due("cell(7, 2)", x.cell(7, 2), 8);
        Check.due("cell(7, 4)", x.cell(7, 4), 0);
        Check.due("cell(5, 2)", x.cell(5, 2), 0);
        Check.due("cell(5, 3)", x.cell(5, 3), 0);
        Check.due("cell(6, 5)", x.cell(6, 5), BAD);
        Check.due("cell(6, -1)", x.cell(6, -1), BAD);
        Check.due("cell(32, 0)", x.cell(32, 0), BAD);
        Check.due("cell(-1, 0)", x.cell(-1, 0), BAD);
    }

    /** A pit at each cell: those beside it go there, and no others. */
    private static void lowest() {
        for (int pit = 0; pit < 32; pit++) {
            SpringOaths x = new SpringOaths();
            x.height(pit, 4);
            for (int cell = 0; cell < 32; cell++) {
                int rows = Math.abs(pit / 8 - cell / 8);
                int columns = Math.abs(pit % 8 - cell % 8);
                Check.due("lowest(" + cell + ") by pit " + pit, x.lowest(cell), rows + columns == 1 ? pit : NONE);
            }
        }
        SpringOaths x = new SpringOaths();
        Check.due("lowest(32)", x.lowest(32), BAD);
        Check.due("lowest(-1)", x.lowest(-1), BAD);
    }

    private static void lowestOfSeveral() {
        SpringOaths x = new SpringOaths();
        int[] around = {2, 9, 11, 18};
        for (int i = 3; i >= 0; i--) {
            x.height(around[i], 3);
            Check.due("lowest(10), several", x.lowest(10), around[i]);
        }
        x.height(18, 2);
        Check.due("lowest(10), the last less", x.lowest(10), 18);
        x.height(11, 1);
        Check.due("lowest(10), the third less", x.lowest(10), 11);
        x.height(10, 1);
        Check.due("lowest(10), none less", x.lowest(10), NONE);
        x.height(10, 0);
        Check.due("lowest(10), all more", x.lowest(10), NONE);
        Check.due("lowest(9)", x.lowest(9), 10);
    }

    private static void ends() {
        SpringOaths x = new SpringOaths();
        for (int column = 0; column < 8; column++) {
            x.height(column, 9 - column);
        }
        Check.due("ends(0)", x.ends(0), 8);
        x.height(8, 9);
        x.height(9, 9);
        x.height(10, 9);
        x.height(11, 9);
        Check.due("ends(0)", x.ends(0), 7);
        Check.due("ends(6)", x.ends(6), 7);
        Check.due("ends(7)", x.ends(7), 7);
        Check.due("ends(15)", x.ends(15), 7);
        Check.due("ends(31)", x.ends(31), 31);
        SpringOaths y = new SpringOaths();
        y.height(0, 3);
        y.height(1, 4);
        Check.due("ends in cell 0", y.ends(2), 0);
        Check.due("cell 0 is a hollow, who goes there isn't", y.wets(2) & 7, 1);
        y.height(0, 4);
        y.height(1, 3);
        y.height(2, 2);
        Check.due("through cell 1", y.ends(0), 2);
        Check.due("ends(-1)", x.ends(-1), BAD);
        Check.due("ends(32)", x.ends(32), BAD);
    }

    private static void water() {
        SpringOaths x = new SpringOaths();
        Check.due("water 99", x.water(31, 99), 0);
        Check.due("water 0", x.water(31, 0), 99);
        Check.due("water 100", x.water(31, 100), BAD);
        Check.due("water -1", x.water(31, -1), BAD);
        Check.due("water(32, 0)", x.water(32, 0), BAD);
        Check.due("water(-1, 0)", x.water(-1, 0), BAD);
        Check.due("stays", x.cell(31, 0), 0);
    }

    private static void height() {
        SpringOaths x = new SpringOaths();
        Check.due("height 9", x.height(0, 9), 5);
        Check.due("height 0", x.height(0, 0), 9);
        Check.due("height 10", x.height(0, 10), BAD);
        Check.due("height -1", x.height(0, -1), BAD);
        Check.due("height(32, 0)", x.height(32, 0), BAD);
        Check.due("height(-1, 0)", x.height(-1, 0), BAD);
        Check.due("stays", x.cell(0, 1), 0);
    }

    private static void wets() {
        SpringOaths x = new SpringOaths();
        x.water(31, 10);
        x.water(30, 9);
        x.water(0, 99);
        Check.due("wets(0)", x.wets(0), 1L << 31 | 1);
        Check.due("many(1)", x.many(1), 2);
        x.person(0, 0, 0, 31);
        x.person(0, 0, 0, 31);
        x.person(0, 0, 50, 2);
        Check.due("wets(1)", x.wets(1), 1L << 31 | 4);
        x.height(31, 6);
        x.height(0, 6);
        Check.due("wets(2)", x.wets(2), 0x7FFFFFFEL);
        Check.due("many(3)", x.many(3), 30);
        Check.due("wets(3)", x.wets(3), BAD);
        Check.due("wets(-1)", x.wets(-1), BAD);
    }
}
