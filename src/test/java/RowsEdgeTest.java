/** The edges of promises 35 to 38: ROWS and THE READER. */
public final class RowsEdgeTest {
    private static final int BAD = SpringOaths.BAD;
    private static final int NO_ROW = -9;

    public static void main(String[] args) {
        proveRanges();
        fewerThanBefore();
        refusedKeepsThem();
        whatRowsTell();
        setOfTheLost();
        rowRanges();
        alterRanges();
        judgeNone();
        judgeTheFirst();
        judgeOthers();
        rowsStay();
        Check.end("RowsEdgeTest");
    }

    private static SpringOaths two() {
        SpringOaths x = new SpringOaths();
        x.person(0, 6, 60, 3);
        x.person(2, 9, 20, 31);
        x.water(31, 10);
        return x;
    }

    private static void proveRanges() {
        SpringOaths x = two();
        Check.due("prove(0, 1)", x.prove(0, 1), 1);
        Check.due("many(4)", x.many(4), 1);
        Check.due("prove(1, 10)", x.prove(1, 10), 10);
        Check.due("many(4)", x.many(4), 10);
        Check.due("n 0", x.prove(0, 0), BAD);
        Check.due("n 11", x.prove(0, 11), BAD);
        Check.due("n -1", x.prove(0, -1), BAD);
        Check.due("one 2", x.prove(2, 1), BAD);
        Check.due("one -1", x.prove(-1, 1), BAD);
        Check.due("nobody", new SpringOaths().prove(0, 1), BAD);
        Check.due("tried", x.state(0), 0);
    }

    private static void fewerThanBefore() {
        SpringOaths x = two();
        x.prove(0, 10);
        for (int n = 9; n >= 1; n--) {
            Check.due("prove", x.prove(0, n), n);
            Check.holds("the last", x.row(n - 1, 0) >= 0);
            Check.due("behind it", x.row(n, 0), NO_ROW);
            Check.due("behind it", x.alterRow(n, 0, 0), NO_ROW);
        }
    }

    private static void refusedKeepsThem() {
        SpringOaths x = two();
        x.prove(0, 3);
        x.alterRow(2, 1, 77);
        Check.due("refused", x.prove(0, 11), BAD);
        Check.due("refused", x.prove(2, 2), BAD);
        Check.due("many(4)", x.many(4), 3);
        Check.due("row(2, 1)", x.row(2, 1), 77);
    }

    /** ROW 0 is behind 1 YEAR, not now. */
    private static void whatRowsTell() {
        SpringOaths x = two();
        x.prove(0, 3);
        int[][] due = {{63, 6, 0}, {53, 12, 2}, {43, 18, 2}};
        for (int i = 0; i < 3; i++) {
            for (int what = 0; what < 3; what++) {
                Check.due("row(" + i + ", " + what + ")", x.row(i, what), due[i][what]);
            }
        }
        x.prove(1, 2);
        Check.due("sure of the last one", x.row(0, 0), 1);
        Check.due("water at cell 31", x.row(0, 1), 11);
        Check.due("held to 0", x.row(1, 0), 0);
    }

    private static void setOfTheLost() {
        SpringOaths x = new SpringOaths();
        for (int i = 0; i < 8; i++) {
            x.person(0, 0, 10, 0);
        }
        x.water(0, 99);
        x.prove(7, 1);
        Check.due("all eight", x.row(0, 2), 255);
        Check.due("full", x.row(0, 1), 99);
        Check.due("lost", x.row(0, 0), 0);
    }

    private static void rowRanges() {
        SpringOaths x = two();
        Check.due("none yet", x.row(0, 0), NO_ROW);
        x.prove(0, 10);
        for (int i = 0; i < 10; i++) {
            for (int what = 0; what < 3; what++) {
                Check.holds("row(" + i + ", " + what + ")", x.row(i, what) >= 0);
            }
            Check.due("what 3", x.row(i, 3), NO_ROW);
            Check.due("what -1", x.row(i, -1), NO_ROW);
        }
        for (int what = -1; what < 4; what++) {
            Check.due("row 10", x.row(10, what), NO_ROW);
            Check.due("row -1", x.row(-1, what), NO_ROW);
        }
    }

    /** Any int may be put there, also what refuses. */
    private static void alterRanges() {
        SpringOaths x = two();
        Check.due("none yet", x.alterRow(0, 0, 5), NO_ROW);
        x.prove(0, 10);
        int[] values = {0, -1, -9, 100, Integer.MAX_VALUE, Integer.MIN_VALUE};
        for (int i : new int[] {0, 9}) {
            for (int what = 0; what < 3; what++) {
                int was = x.row(i, what);
                for (int v : values) {
                    Check.due("alterRow(" + i + ", " + what + ", " + v + ")", x.alterRow(i, what, v), was);
                    Check.due("row", x.row(i, what), v);
                    was = v;
                }
            }
            Check.due("what 3", x.alterRow(i, 3, 0), NO_ROW);
            Check.due("what -1", x.alterRow(i, -1, 0), NO_ROW);
        }
        Check.due("row 10", x.alterRow(10, 0, 0), NO_ROW);
        Check.due("row -1", x.alterRow(-1, 0, 0), NO_ROW);
        Check.due("many(4)", x.many(4), 10);
    }

    /** "0 all is right (also if there are none)". */
    private static void judgeNone() {
        SpringOaths x = two();
        Check.due("the first", x.judge(0), 0);
        Check.due("the last", x.judge(1), 0);
        Check.due("one 2", x.judge(2), BAD);
        Check.due("one -1", x.judge(-1), BAD);
        Check.due("nobody", new SpringOaths().judge(0), BAD);
        x.prove(0, 3);
        Check.due("one 2 by rows", x.judge(2), BAD);
    }

    /** "Else the first ROW that isn't, and 1 more". */
    private static void judgeTheFirst() {
        SpringOaths x = two();
        x.prove(0, 10);
        Check.due("all right", x.judge(0), 0);
        for (int i = 9; i >= 0; i--) {
            int what = i % 3;
            x.alterRow(i, what, x.row(i, what) + (i % 2 == 0 ? 1 : -1));
            Check.due("from " + i + " on", x.judge(0), i + 1);
        }
        x.prove(0, 1);
        Check.due("one row", x.judge(0), 0);
        x.alterRow(0, 0, Integer.MIN_VALUE);
        Check.due("it isn't", x.judge(0), 1);
        x.alterRow(0, 0, 63);
        Check.due("it is again", x.judge(0), 0);
    }

    /** They are taken as those of the one who is asked about. */
    private static void judgeOthers() {
        SpringOaths x = new SpringOaths();
        x.person(0, 6, 60, 3);
        x.person(0, 6, 60, 3);
        x.person(0, 6, 60, 4);
        x.prove(0, 5);
        Check.due("one alike", x.judge(1), 0);
        Check.due("one elsewhere", x.judge(2), 1);
        x.sure(0, 61);
        Check.due("from how it is now", x.judge(0), 1);
        Check.due("the other is as it was", x.judge(1), 0);
    }

    private static void rowsStay() {
        SpringOaths x = two();
        x.keep();
        x.prove(0, 4);
        x.years(1);
        x.person(0, 0, 0, 0);
        Check.due("many(4)", x.many(4), 4);
        x.again();
        Check.due("many(4)", x.many(4), 4);
        Check.due("right", x.judge(0), 0);
        x.moor();
        Check.due("none", x.many(4), 0);
    }
}
