/** The edges of promise 1, and of 4 to 11: LAWS and PEOPLE. */
public final class PeopleEdgeTest {
    private static final int BAD = SpringOaths.BAD;
    private static final int FULL = SpringOaths.FULL;
    private static final int SWORN = 0;
    private static final int ENGINEER = 1;
    private static final int DOUBTER = 2;
    private static final int EXPERT = 3;
    private static final int DOWSER = 4;
    private static final int DRUNKARD = 5;

    public static void main(String[] args) {
        atFirst();
        lawRanges();
        personRanges();
        eight();
        numberedAsTheyCome();
        lostAtZero();
        wellsByFifty();
        wellsOfDoubters();
        wellsOfDowsers();
        wellsOfExperts();
        wellsOfDrunkards();
        losesFromBelowZero();
        wins();
        disagreeByThirty();
        disagreeUnlessLost();
        disagreeAtOneCell();
        allDisagree();
        mindRanges();
        sureRanges();
        bringRanges();
        Check.end("PeopleEdgeTest");
    }

    private static SpringOaths with(int kind, int sense, int sure) {
        SpringOaths x = new SpringOaths();
        x.person(kind, sense, sure, 3);
        return x;
    }

    /** "No PEOPLE; nothing is kept", and all of the terms' "at first". */
    private static void atFirst() {
        SpringOaths x = new SpringOaths();
        int[] many = {0, 0, 0, 32, 0, 0, 0};
        for (int what = 0; what < 7; what++) {
            Check.due("many(" + what + ")", x.many(what), many[what]);
        }
        for (int what = 0; what < 5; what++) {
            Check.due("state(" + what + ")", x.state(what), 0);
        }
        int[] laws = {2, 3, 20, 20};
        for (int law = 0; law < 4; law++) {
            Check.due("lawOf(" + law + ")", x.lawOf(law), laws[law]);
        }
        for (int cell = 0; cell < 32; cell++) {
            int[] of = {0, 5, 0, 0, 0};
            for (int what = 0; what < 5; what++) {
                Check.due("cell(" + cell + ", " + what + ")", x.cell(cell, what), of[what]);
            }
        }
        Check.due("of(0, 0)", x.of(0, 0), BAD);
        for (int i = 0; i < 4; i++) {
            Check.due("a sheet is missing", x.put(i, 0, 0), -11);
            Check.due("a shelf holds nothing", x.taken(i, 0), -11);
            Check.due("nothing acts", x.act(i, 0, 5), 0);
        }
        Check.due("no row", x.row(0, 0), -9);
        Check.due("no trace", x.trace(0), SpringOaths.NONE);
        Check.due("nothing is kept", x.again(), SpringOaths.NONE);
        Check.due("z", x.seed(0), 1);
    }

    private static void lawRanges() {
        int[] most = {9, 9, 50, 99};
        for (int law = 0; law < 4; law++) {
            SpringOaths x = new SpringOaths();
            int was = x.lawOf(law);
            for (int v : new int[] {0, most[law], 1, most[law] - 1}) {
                Check.due("set(" + law + ", " + v + ")", x.set(law, v), was);
                Check.due("lawOf(" + law + ")", x.lawOf(law), v);
                Check.due("set(" + law + ", -1)", x.set(law, -1), BAD);
                Check.due("set(" + law + ", " + (most[law] + 1) + ")", x.set(law, most[law] + 1), BAD);
                Check.due("lawOf(" + law + ")", x.lawOf(law), v);
                was = v;
            }
            for (int other = 0; other < 4; other++) {
                if (other != law) {
                    Check.due("another law", x.lawOf(other), new SpringOaths().lawOf(other));
                }
            }
        }
        SpringOaths x = new SpringOaths();
        Check.due("set(4, 0)", x.set(4, 0), BAD);
        Check.due("set(-1, 0)", x.set(-1, 0), BAD);
        Check.due("lawOf(4)", x.lawOf(4), BAD);
        Check.due("lawOf(-1)", x.lawOf(-1), BAD);
    }

    private static void personRanges() {
        int[][] taken = {{0, 0, 0, 0}, {5, 9, 99, 31}, {5, 0, 0, 0}, {0, 9, 0, 0}, {0, 0, 99, 0}, {0, 0, 0, 31}};
        SpringOaths x = new SpringOaths();
        for (int i = 0; i < taken.length; i++) {
            int[] one = taken[i];
            Check.due("person", x.person(one[0], one[1], one[2], one[3]), i);
            for (int what = 0; what < 4; what++) {
                Check.due("of(" + i + ", " + what + ")", x.of(i, what), one[what]);
            }
        }
        int[][] wrong = {{-1, 0, 0, 0}, {6, 0, 0, 0}, {0, -1, 0, 0}, {0, 10, 0, 0}, {0, 0, -1, 0}, {0, 0, 100, 0},
            {0, 0, 0, -1}, {0, 0, 0, 32}};
        for (int[] one : wrong) {
            Check.due("person", x.person(one[0], one[1], one[2], one[3]), BAD);
            Check.due("nobody came", x.many(0), taken.length);
        }
    }

    /** "8 at most": BAD comes before FULL. */
    private static void eight() {
        SpringOaths x = new SpringOaths();
        for (int i = 0; i < 7; i++) {
            x.person(0, 0, 50, 0);
        }
        Check.due("the eighth", x.person(1, 2, 3, 4), 7);
        Check.due("the ninth", x.person(1, 2, 3, 4), FULL);
        Check.due("many(0)", x.many(0), 8);
        Check.due("the eighth, asked", x.of(7, 3), 4);
        Check.due("the ninth, asked", x.of(8, 3), BAD);
        Check.due("a ninth of no kind", x.person(6, 2, 3, 4), BAD);
        Check.due("a ninth of no sense", x.person(1, 10, 3, 4), BAD);
        Check.due("a ninth so sure", x.person(1, 2, 100, 4), BAD);
        Check.due("a ninth nowhere", x.person(1, 2, 3, 32), BAD);
    }

    private static void numberedAsTheyCome() {
        SpringOaths x = new SpringOaths();
        Check.due("the first", x.person(0, 0, 0, 0), 0);
        x.keep();
        Check.due("the second", x.person(0, 0, 0, 0), 1);
        Check.due("refused", x.person(0, 0, 100, 0), BAD);
        Check.due("no number is left out", x.person(0, 0, 0, 0), 2);
        x.again();
        Check.due("from what was kept", x.person(0, 0, 0, 0), 1);
        x.moor();
        Check.due("from nobody", x.person(0, 0, 0, 0), 0);
    }

    private static void lostAtZero() {
        for (int kind = 0; kind < 6; kind++) {
            SpringOaths x = with(kind, 4, 0);
            Check.due("sure 0, kind " + kind, x.of(0, 6), 1);
            Check.due("as a set", x.state(2), 1);
            x.sure(0, 1);
            Check.due("sure 1, kind " + kind, x.of(0, 6), 0);
            Check.due("as a set", x.state(2), 0);
        }
    }

    private static void wells(int kind, int sense, int sure, int due) {
        Check.due("kind " + kind + " wells by " + sense + ", " + sure, with(kind, sense, sure).of(0, 4), due);
    }

    /** "SENSE, if SURE is 50 or more, else 0"; an engineer twice that. */
    private static void wellsByFifty() {
        for (int sense = 0; sense <= 9; sense++) {
            for (int sure : new int[] {0, 1, 49}) {
                wells(SWORN, sense, sure, 0);
                wells(ENGINEER, sense, sure, 0);
                wells(DRUNKARD, sense, sure, 0);
            }
            for (int sure : new int[] {50, 51, 99}) {
                wells(SWORN, sense, sure, sense);
                wells(ENGINEER, sense, sure, 2 * sense);
                wells(DRUNKARD, sense, sure, sense);
            }
        }
    }

    /** "As sworn; but 1, if that is 0 and it isn't LOST": also who is sure, but without SENSE. */
    private static void wellsOfDoubters() {
        wells(DOUBTER, 9, 0, 0);
        wells(DOUBTER, 9, 1, 1);
        wells(DOUBTER, 9, 49, 1);
        wells(DOUBTER, 9, 50, 9);
        wells(DOUBTER, 1, 50, 1);
        wells(DOUBTER, 0, 0, 0);
        wells(DOUBTER, 0, 1, 1);
        wells(DOUBTER, 0, 49, 1);
        wells(DOUBTER, 0, 50, 1);
        wells(DOUBTER, 0, 99, 1);
    }

    /** "Half as doubter", cut. */
    private static void wellsOfDowsers() {
        wells(DOWSER, 9, 0, 0);
        wells(DOWSER, 9, 1, 0);
        wells(DOWSER, 9, 49, 0);
        wells(DOWSER, 9, 50, 4);
        wells(DOWSER, 8, 50, 4);
        wells(DOWSER, 3, 50, 1);
        wells(DOWSER, 2, 50, 1);
        wells(DOWSER, 1, 50, 0);
        wells(DOWSER, 0, 99, 0);
    }

    /** "As engineer, and SPRING", also one who isn't sure at all. */
    private static void wellsOfExperts() {
        wells(EXPERT, 9, 0, 2);
        wells(EXPERT, 9, 49, 2);
        wells(EXPERT, 9, 50, 20);
        wells(EXPERT, 0, 99, 2);
        SpringOaths x = with(EXPERT, 9, 99);
        x.set(0, 0);
        Check.due("spring 0", x.of(0, 4), 18);
        x.set(0, 9);
        Check.due("spring 9", x.of(0, 4), 27);
        x.sure(0, 0);
        Check.due("spring 9, lost", x.of(0, 4), 9);
    }

    /** "In even YEARS; else 0": YEAR 0 is even. */
    private static void wellsOfDrunkards() {
        SpringOaths x = with(DRUNKARD, 9, 99);
        x.bring(0, 31);
        x.height(31, 9);
        x.set(2, 0);
        for (int year = 0; year < 4; year++) {
            Check.due("year", x.state(0), year);
            Check.due("in year " + year, x.of(0, 4), year % 2 == 0 ? 9 : 0);
            x.years(1);
            x.sure(0, 99);
        }
    }

    /** "So it may be below 0": 1000, and that. */
    private static void losesFromBelowZero() {
        int[] most = {1010, 1005, 1019, 1000, 1004, 1030};
        int[] least = {1010, 1005, 1010, 1000, 995, 1030};
        for (int kind = 0; kind < 6; kind++) {
            Check.due("loses, kind " + kind + ", sense 9", with(kind, 9, 0).loses(0), most[kind]);
            Check.due("loses, kind " + kind + ", sense 0", with(kind, 0, 99).loses(0), least[kind]);
        }
        Check.due("a dowser with 4", with(DOWSER, 4, 0).loses(0), 999);
        Check.due("a dowser with 5", with(DOWSER, 5, 0).loses(0), 1000);
        Check.due("a dowser with 6", with(DOWSER, 6, 0).loses(0), 1001);
        SpringOaths x = with(SWORN, 0, 0);
        Check.due("loses(1)", x.loses(1), BAD);
        Check.due("loses(-1)", x.loses(-1), BAD);
        Check.due("loses(8)", x.loses(8), BAD);
    }

    /** Neither SENSE nor SURE counts for what one WINS. */
    private static void wins() {
        int[] wins = {3, 5, 1, 5, 1, 0};
        for (int kind = 0; kind < 6; kind++) {
            Check.due("wins, kind " + kind, with(kind, 0, 0).of(0, 5), wins[kind]);
            Check.due("wins, kind " + kind, with(kind, 9, 99).of(0, 5), wins[kind]);
        }
    }

    private static void pair(int sure, int other, boolean disagree) {
        SpringOaths x = new SpringOaths();
        x.person(0, 0, sure, 3);
        x.person(5, 9, other, 3);
        Check.due(sure + " and " + other, x.of(0, 7), disagree ? 2 : 0);
        Check.due(other + " and " + sure, x.of(1, 7), disagree ? 1 : 0);
        Check.due("at the cell", x.cell(3, 4), disagree ? 1 : 0);
        Check.due("everywhere", x.state(4), disagree ? 1 : 0);
    }

    /** "Their SURES differ by 30 or more", whoever is the surer. */
    private static void disagreeByThirty() {
        pair(1, 30, false);
        pair(1, 31, true);
        pair(1, 32, true);
        pair(30, 1, false);
        pair(31, 1, true);
        pair(69, 99, true);
        pair(70, 99, false);
        pair(99, 69, true);
        pair(99, 70, false);
        pair(1, 99, true);
        pair(50, 50, false);
    }

    private static void disagreeUnlessLost() {
        pair(0, 30, false);
        pair(0, 99, false);
        pair(99, 0, false);
        pair(0, 0, false);
    }

    private static void disagreeAtOneCell() {
        for (int other = 0; other < 32; other++) {
            SpringOaths x = new SpringOaths();
            x.person(0, 0, 1, 9);
            x.person(0, 0, 99, other);
            Check.due("at 9 and at " + other, x.of(0, 7), other == 9 ? 2 : 0);
            Check.due("state(4)", x.state(4), other == 9 ? 1 : 0);
        }
    }

    /** Everything full: eight at one cell, and the sets that tell them. */
    private static void allDisagree() {
        SpringOaths x = new SpringOaths();
        for (int i = 0; i < 8; i++) {
            x.person(EXPERT, 9, i == 0 ? 99 : 1, 31);
        }
        Check.due("one with seven", x.of(0, 7), 254);
        for (int i = 1; i < 8; i++) {
            Check.due("another with one", x.of(i, 7), 1);
        }
        Check.due("pairs", x.state(4), 7);
        for (int i = 4; i < 8; i++) {
            x.sure(i, 99);
            x.sure(i - 4, 69);
        }
        Check.due("the last with four", x.of(7, 7), 15);
        Check.due("pairs", x.cell(31, 4), 16);
        Check.due("pairs", x.state(4), 16);
        Check.due("who is there", x.cell(31, 2), 255);
        x.set(0, 9);
        Check.due("what they well isn't held to 99", x.cell(31, 3), 8 * 27);
        for (int i = 0; i < 8; i++) {
            x.sure(i, 0);
        }
        Check.due("all lost", x.state(2), 255);
        Check.due("nobody disagrees", x.of(7, 7), 0);
    }

    private static void mindRanges() {
        SpringOaths x = with(3, 4, 55);
        x.person(0, 1, 2, 3);
        Check.due("kind 0, sense 0", x.mind(0, 0, 0), 3);
        Check.due("kind 5, sense 9", x.mind(0, 5, 9), 0);
        Check.due("as it was", x.mind(0, 5, 9), 5);
        Check.due("the last one", x.mind(1, 1, 1), 0);
        Check.due("behind the last", x.mind(2, 1, 1), BAD);
        Check.due("before the first", x.mind(-1, 1, 1), BAD);
        Check.due("kind 6", x.mind(0, 6, 1), BAD);
        Check.due("kind -1", x.mind(0, -1, 1), BAD);
        Check.due("sense 10", x.mind(0, 1, 10), BAD);
        Check.due("sense -1", x.mind(0, 1, -1), BAD);
        int[] of = {5, 9, 55, 3};
        for (int what = 0; what < 4; what++) {
            Check.due("of(0, " + what + ")", x.of(0, what), of[what]);
        }
    }

    private static void sureRanges() {
        SpringOaths x = with(0, 0, 7);
        x.person(0, 0, 8, 0);
        Check.due("sure 0", x.sure(0, 0), 7);
        Check.due("sure 99", x.sure(0, 99), 0);
        Check.due("the last one", x.sure(1, 1), 8);
        Check.due("behind the last", x.sure(2, 1), BAD);
        Check.due("before the first", x.sure(-1, 1), BAD);
        Check.due("sure 100", x.sure(0, 100), BAD);
        Check.due("sure -1", x.sure(0, -1), BAD);
        Check.due("stays", x.of(0, 2), 99);
        Check.due("the last one's", x.of(1, 2), 1);
    }

    private static void bringRanges() {
        SpringOaths x = with(0, 0, 7);
        x.person(0, 0, 8, 9);
        Check.due("to cell 0", x.bring(0, 0), 3);
        Check.due("to cell 31", x.bring(0, 31), 0);
        Check.due("where it is", x.bring(0, 31), 31);
        Check.due("the last one", x.bring(1, 31), 9);
        Check.due("behind the last", x.bring(2, 1), BAD);
        Check.due("before the first", x.bring(-1, 1), BAD);
        Check.due("to cell 32", x.bring(0, 32), BAD);
        Check.due("to cell -1", x.bring(0, -1), BAD);
        Check.due("both there", x.cell(31, 2), 3);
        Check.due("nobody else", x.wets(1), 1L << 31);
    }
}
