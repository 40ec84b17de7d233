/** Promises 35 to 38: ROWS and THE READER. */
public final class RowsTest {
    private static final int BAD = SpringOaths.BAD;
    private static final int NO_ROW = -9;

    public static void main(String[] args) {
        prove();
        rowRefuses();
        alterRow();
        judge();
        judgeFromNow();
        Check.end("RowsTest");
    }

    private static SpringOaths withThree() {
        SpringOaths x = new SpringOaths();
        x.person(0, 6, 60, 3);
        x.person(2, 4, 10, 3);
        x.person(1, 3, 90, 4);
        return x;
    }

    private static void prove() {
        SpringOaths x = withThree();
        Check.due("prove(3, 1)", x.prove(3, 1), BAD);
        Check.due("prove(-1, 1)", x.prove(-1, 1), BAD);
        Check.due("prove(0, 0)", x.prove(0, 0), BAD);
        Check.due("prove(0, 11)", x.prove(0, 11), BAD);
        Check.due("many(4)", x.many(4), 0);
        Check.due("prove(1, 10)", x.prove(1, 10), 10);
        Check.due("many(4)", x.many(4), 10);
        SpringOaths lived = withThree();
        for (int i = 0; i < 10; i++) {
            lived.years(1);
            Check.due("row(" + i + ", 0)", x.row(i, 0), lived.of(1, 2));
            Check.due("row(" + i + ", 1)", x.row(i, 1), lived.cell(3, 0));
            Check.due("row(" + i + ", 2)", x.row(i, 2), lived.state(2));
        }
        Check.due("nothing changes", x.state(0), 0);
        Check.due("fewer", x.prove(2, 1), 1);
        Check.due("row(0, 0)", x.row(0, 0), 95);
        Check.due("row(0, 1)", x.row(0, 1), 6);
        Check.due("row(0, 2)", x.row(0, 2), 2);
        Check.due("row(1, 0)", x.row(1, 0), NO_ROW);
        Check.due("a refused one keeps the rows", x.prove(2, 0), BAD);
        Check.due("many(4)", x.many(4), 1);
    }

    private static void rowRefuses() {
        SpringOaths x = withThree();
        Check.due("no rows", x.row(0, 0), NO_ROW);
        Check.due("no rows", x.alterRow(0, 0, 1), NO_ROW);
        x.prove(0, 2);
        int[][] wrong = {{2, 0}, {-1, 0}, {10, 0}, {0, 3}, {0, -1}};
        for (int[] w : wrong) {
            Check.due("row", x.row(w[0], w[1]), NO_ROW);
            Check.due("alterRow", x.alterRow(w[0], w[1], 1), NO_ROW);
        }
    }

    private static void alterRow() {
        SpringOaths x = withThree();
        x.prove(0, 2);
        Check.due("alterRow", x.alterRow(1, 1, Integer.MIN_VALUE), 16);
        Check.due("alterRow again", x.alterRow(1, 1, -9), Integer.MIN_VALUE);
        Check.due("row", x.row(1, 1), -9);
        Check.due("another row stays", x.row(0, 1), 10);
        Check.due("another part stays", x.row(1, 2), 2);
        Check.due("another part stays", x.row(1, 0), 40);
    }

    private static void judge() {
        SpringOaths x = withThree();
        Check.due("no rows are right", x.judge(0), 0);
        Check.due("judge(3)", x.judge(3), BAD);
        Check.due("judge(-1)", x.judge(-1), BAD);
        x.prove(0, 10);
        Check.due("right", x.judge(0), 0);
        Check.due("another's", x.judge(1), 1);
        for (int what = 0; what < 3; what++) {
            int was = x.row(9, what);
            x.alterRow(9, what, was + 1);
            Check.due("the last is wrong", x.judge(0), 10);
            x.alterRow(4, what, x.row(4, what) - 1);
            Check.due("the fifth is wrong", x.judge(0), 5);
            x.alterRow(4, what, x.row(4, what) + 1);
            x.alterRow(9, what, was);
            Check.due("right again", x.judge(0), 0);
        }
        Check.due("nothing changes", x.state(0), 0);
    }

    private static void judgeFromNow() {
        SpringOaths x = withThree();
        x.prove(0, 3);
        x.keep();
        x.years(1);
        Check.due("a year later", x.judge(0), 1);
        x.again();
        Check.due("rows are not kept, they stay", x.many(4), 3);
        Check.due("as it was", x.judge(0), 0);
        x.mind(1, 2, 9);
        Check.due("from how it is now", x.judge(0), 0);
        x.mind(0, 0, 7);
        Check.due("from how it is now", x.judge(0), 1);
    }
}
