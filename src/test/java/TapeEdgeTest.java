/** The edges of promises 2 and 3: THE TAPE, its TEXT and the FAULT. */
public final class TapeEdgeTest {
    private static final int BAD = SpringOaths.BAD;
    private static final int FULL = SpringOaths.FULL;

    public static void main(String[] args) {
        bytesThatCome();
        twoHundred();
        usedUp();
        nothingOnTheTape();
        rangesOfCells();
        rangesOfPeople();
        rangesOfLaws();
        digits();
        eachLetter();
        asLongAsTheyGo();
        blanks();
        otherBytes();
        whatMustComeNext();
        theEnd();
        theNinth();
        theFirstFault();
        toldTwice();
        asAtFirst();
        zStays();
        noRows();
        theRestStays();
        Check.end("TapeEdgeTest");
    }

    private static void moor(String text, int due) {
        Check.due("moor() of '" + text + "'", Check.moor(new SpringOaths(), text), due);
    }

    private static void fault(String text, int at) {
        moor(text, -100 - at);
    }

    private static String padded(String text, int length) {
        StringBuilder padded = new StringBuilder(text);
        while (padded.length() < length) {
            padded.append(' ');
        }
        return padded.toString();
    }

    /** "n bytes (1 to 8), the lowest byte of eight first": those behind the n-th don't come. */
    private static void bytesThatCome() {
        for (int n = 1; n <= 8; n++) {
            SpringOaths x = new SpringOaths();
            Check.due("feed, n " + n, x.feed(-1L, n), n);
            Check.due("many(5)", x.many(5), n);
            Check.due("byte 255 can't stand there", x.moor(), -100);
        }
        for (int n = 1; n < 8; n++) {
            SpringOaths x = new SpringOaths();
            // blanks, and an 'x' as the next higher byte
            x.feed(0x7878787878787878L << 8 * n | 0x2020202020202020L >>> 8 * (8 - n), n);
            Check.due("only " + n + " of eight", x.moor(), 0);
        }
        SpringOaths x = new SpringOaths();
        Check.due("feed n 0", x.feed(59, 0), BAD);
        Check.due("feed n 9", x.feed(59, 9), BAD);
        Check.due("nothing came", x.many(5), 0);
        // "seep 7; " with its eighth byte the highest
        Check.due("feed n 8", x.feed(0x203B372070656573L, 8), 8);
        Check.due("moor()", x.moor(), 0);
        Check.due("lawOf(1)", x.lawOf(1), 7);
    }

    /** "200 at most": 200 are taken, 201 aren't, and none of those that are too many. */
    private static void twoHundred() {
        SpringOaths x = new SpringOaths();
        for (int i = 0; i < 24; i++) {
            x.feed(0x2020202020202020L, 8);
        }
        Check.due("192 and 8", x.feed(0x2020202020202020L, 8), 200);
        Check.due("200 and 1", x.feed(32, 1), FULL);
        Check.due("many(5)", x.many(5), 200);
        Check.due("moor()", x.moor(), 0);
        Check.feed(x, padded("bog 7;", 193));
        Check.due("193 and 8", x.feed(0x2020202020202020L, 8), FULL);
        Check.due("many(5)", x.many(5), 193);
        Check.due("193 and 7", x.feed(0x2020202020202020L, 7), 200);
        Check.due("moor()", x.moor(), 0);
        Check.due("lawOf(2)", x.lawOf(2), 7);
        moor(padded("", 194) + "bog 7;", 0);
        fault(padded("", 194) + "bog 77", 198);
        fault(padded("", 195) + "bog 7", 200);
        fault(padded("", 199) + "b", 199);
    }

    /** "moor() uses it up", with a FAULT or without. */
    private static void usedUp() {
        SpringOaths x = new SpringOaths();
        Check.due("without a fault", Check.moor(x, "sworn at 3;"), 1);
        Check.due("many(5)", x.many(5), 0);
        Check.due("with a fault", Check.moor(x, "sworn at 3"), -110);
        Check.due("many(5)", x.many(5), 0);
        Check.due("who was there stays", x.many(0), 1);
        Check.due("what follows is no part of it", Check.moor(x, ";"), -100);
        Check.due("who was there stays", x.many(0), 1);
        Check.due("nothing fed", x.moor(), 0);
        Check.due("nobody", x.many(0), 0);
    }

    private static void nothingOnTheTape() {
        moor("", 0);
        moor(" ", 0);
        moor(padded("", 200), 0);
    }

    private static void rangesOfCells() {
        moor("height 0 is 0;height 31 is 9;", 0);
        moor("water 0 is 0;water 31 is 99;", 0);
        fault("height 32 is 0;", 7);
        fault("height 0 is 10;", 12);
        fault("water 32 is 0;", 6);
        fault("water 0 is 100;", 11);
        fault("water 100 is 0;", 6);
        fault("height 999 is 0;", 7);
    }

    private static void rangesOfPeople() {
        SpringOaths x = new SpringOaths();
        Check.due("the least", Check.moor(x, "sworn at 0 sure 0 sense 0;"), 1);
        Check.due("sure", x.of(0, 2), 0);
        Check.due("sense", x.of(0, 1), 0);
        Check.due("at", x.of(0, 3), 0);
        Check.due("the most", Check.moor(x, "drunkard at 31 sure 99 sense 9;"), 1);
        Check.due("sure", x.of(0, 2), 99);
        Check.due("sense", x.of(0, 1), 9);
        Check.due("at", x.of(0, 3), 31);
        Check.due("neither told", Check.moor(x, "expert at 1;"), 1);
        Check.due("sure without", x.of(0, 2), 50);
        Check.due("sense without", x.of(0, 1), 0);
        Check.due("sure alone", Check.moor(x, "expert at 1 sure 1;"), 1);
        Check.due("sure", x.of(0, 2), 1);
        Check.due("sense without", x.of(0, 1), 0);
        Check.due("sense alone", Check.moor(x, "expert at 1 sense 1;"), 1);
        Check.due("sure without", x.of(0, 2), 50);
        Check.due("sense", x.of(0, 1), 1);
        fault("sworn at 32;", 9);
        fault("sworn at 0 sure 100;", 16);
        fault("sworn at 0 sense 10;", 17);
        fault("sworn at 0 sure 0 sense 10;", 24);
    }

    private static void rangesOfLaws() {
        String[] names = {"spring", "seep", "bog", "drink"};
        int[] most = {9, 9, 50, 99};
        for (int law = 0; law < 4; law++) {
            SpringOaths x = new SpringOaths();
            Check.due(names[law] + " 0", Check.moor(x, names[law] + " 0;"), 0);
            Check.due("lawOf", x.lawOf(law), 0);
            Check.due(names[law] + ", the most", Check.moor(x, names[law] + " " + most[law] + ";"), 0);
            Check.due("lawOf", x.lawOf(law), most[law]);
            fault(names[law] + " " + (most[law] + 1) + ";", names[law].length() + 1);
        }
    }

    /** "NUMBERS rows of digits (1 to 3)": a fourth is a FAULT of the NUMBER, in its range or not. */
    private static void digits() {
        moor("bog 7;bog 07;bog 007;", 0);
        moor("sworn at 031 sure 099 sense 009;", 1);
        moor("bog 000;", 0);
        fault("bog 0007;", 4);
        fault("bog 0000;", 4);
        fault("bog 999;", 4);
        fault("bog 1000;", 4);
        fault("sworn at 0003;", 9);
        fault("bog 00000000000000000000007;", 4);
        fault("bog 4294967303;", 4);
    }

    /** A NAME is told by each of its letters: another one, one more, one less is no such NAME. */
    private static void eachLetter() {
        String[] texts = {"sworn at 3;", "engineer at 3;", "doubter at 3;", "expert at 3;", "dowser at 3;",
            "drunkard at 3;", "height 3 is 4;", "water 3 is 4;", "spring 3;", "seep 3;", "bog 3;", "drink 3;",
            "sworn at 3 sure 4;", "sworn at 3 sense 4;"};
        for (String text : texts) {
            moor(text, text.contains(" at ") ? 1 : 0);
            int begin = 0;
            for (int i = 0; i < text.length(); i++) {
                char c = text.charAt(i);
                if (c < 'a' || c > 'z') {
                    begin = i + 1;
                } else {
                    String before = text.substring(0, i);
                    String behind = text.substring(i + 1);
                    char next = (char) (c == 'z' ? 'a' : c + 1);
                    fault(before + next + behind, begin);
                    fault(before + (char) (c - 'a' + 'A') + behind, begin);
                    fault(before + c + c + behind, begin);
                    fault(before + behind, begin);
                }
            }
        }
    }

    /** "Both as long as they go": letters and digits end one another. */
    private static void asLongAsTheyGo() {
        moor("sworn at3sure4sense5;bog6;height7is8;", 1);
        fault("swornat 3;", 0);
        fault("sworn atsure 3;", 6);
        fault("sworn at 3 surely 4;", 11);
        fault("sworn at 3 suresense 4;", 11);
        fault("bogs 3;", 0);
        fault("bo 3;", 0);
        fault("bog3 4;", 5);
        fault("bog 3 4;", 6);
        fault("height 7 iss 8;", 9);
        fault("height 7 i 8;", 9);
    }

    /** "Blanks part them, and stand elsewhere as one likes", but not in a NAME or a NUMBER. */
    private static void blanks() {
        moor("  sworn   at   3   sure   4   sense   5   ;   ", 1);
        moor("sworn at 3;bog 4;", 1);
        fault("swo rn at 3;", 0);
        fault("sworn a t 3;", 6);
        fault("sworn at 3 1;", 11);
        fault("sworn at 3 su re 4;", 11);
        moor("height 3 is 9 ; water 3 is 9 ;", 0);
    }

    /** Only blanks (32) are blanks, and only a to z are letters: the bytes next to them are other bytes. */
    private static void otherBytes() {
        for (int sign = 0; sign < 256; sign++) {
            boolean letter = sign >= 'a' && sign <= 'z';
            boolean digit = sign >= '0' && sign <= '9';
            char c = (char) sign;
            if (sign != ' ') {
                fault(c + " bog 3;", 0);
            }
            fault("bog" + c + " 3;", letter ? 0 : digit ? 5 : sign == ' ' ? 100 : 3, sign == ' ');
            if (sign != ' ' && sign != ';' && !digit) {
                fault("bog 3" + c + ";", 5);
            }
            if (sign != ' ' && sign != ';') {
                fault("bog 3 " + c + ";", 6);
            }
            if (sign != ' ' && !digit) {
                fault("bog " + c + "3;", 4);
            }
        }
    }

    private static void fault(String text, int at, boolean isNone) {
        if (isNone) {
            moor(text, 0);
        } else {
            fault(text, at);
        }
    }

    /** A NAME or NUMBER that is well told but can't stand there. */
    private static void whatMustComeNext() {
        String[] names = {"sworn", "engineer", "doubter", "expert", "dowser", "drunkard", "height", "water", "spring",
            "seep", "bog", "drink", "at", "sure", "sense", "is"};
        for (int i = 0; i < names.length; i++) {
            String name = names[i];
            if (i >= 12) {
                fault(name + " 3;", 0);
            }
            if (!name.equals("at")) {
                fault("sworn " + name + " 3;", 6);
            }
            if (!name.equals("is")) {
                fault("height 3 " + name + " 3;", 9);
                fault("water 3 " + name + " 3;", 8);
            }
            fault("sworn at " + name + ";", 9);
            fault("bog " + name + ";", 4);
            fault("height " + name + ";", 7);
            fault("height 3 is " + name + ";", 12);
            if (!name.equals("sense") && !name.equals("sure")) {
                fault("sworn at 3 " + name + " 3;", 11);
            }
            if (!name.equals("sense")) {
                fault("sworn at 3 sure 4 " + name + " 3;", 18);
            }
            fault("sworn at 3 sense 4 " + name + " 3;", 19);
            fault("bog 3 " + name + " 3;", 6);
        }
        fault("3;", 0);
        fault("sworn 3;", 6);
        fault("sworn at;", 8);
        fault("sworn at 3 sure;", 15);
        fault("sworn at 3 sure 3 sense;", 23);
        fault("height 3 9;", 9);
        fault("bog;", 3);
        fault(";", 0);
        fault("bog 3;;", 6);
    }

    /** "Or the end (how many bytes there are), if more must come": behind each NAME and NUMBER, and blanks too. */
    private static void theEnd() {
        String[] texts = {"sworn", "sworn at", "sworn at 3", "sworn at 3 sure", "sworn at 3 sure 4",
            "sworn at 3 sure 4 sense", "sworn at 3 sure 4 sense 5", "sworn at 3 sense", "sworn at 3 sense 5", "height",
            "height 3", "height 3 is", "height 3 is 4", "water", "water 3", "water 3 is", "water 3 is 4", "spring",
            "spring 3", "seep", "seep 3", "bog", "bog 3", "drink", "drink 3"};
        for (String text : texts) {
            fault(text, text.length());
            fault(text + "   ", text.length() + 3);
            fault("bog 1;" + text, text.length() + 6);
            fault(padded(text, 200), 200);
        }
        moor("bog 3;", 0);
        moor("bog 3;   ", 0);
        // a NUMBER or a NAME that is not as told comes before the end
        fault("bog 51", 4);
        fault("bog 0003", 4);
        fault("swor", 0);
        fault("sworn a", 6);
        fault("height 3 i", 9);
        fault("sworn at 3 s", 11);
    }

    /** "The NAME of a ninth one". */
    private static void theNinth() {
        StringBuilder eight = new StringBuilder();
        for (int i = 0; i < 8; i++) {
            eight.append("expert at ").append(i).append(";");
        }
        moor(eight.toString(), 8);
        moor(eight + "bog 3;height 1 is 1;", 8);
        String[] kinds = {"sworn", "engineer", "doubter", "expert", "dowser", "drunkard"};
        for (String kind : kinds) {
            fault(eight + kind + " at 3;", eight.length());
            fault(eight + "   " + kind, eight.length() + 3);
            fault("bog 1;" + eight + kind + " at 99;", eight.length() + 6);
        }
        SpringOaths x = new SpringOaths();
        for (int i = 0; i < 8; i++) {
            x.person(0, 0, 0, 0);
        }
        Check.due("those who were there don't count", Check.moor(x, eight.toString()), 8);
        Check.due("nor when it is refused", Check.moor(x, eight + "sworn at 1;"), -100 - eight.length());
        Check.due("eight stay", x.many(0), 8);
        Check.due("as they were", x.of(7, 3), 7);
    }

    /** Of several faults the first one. */
    private static void theFirstFault() {
        fault("sworn at 99 sure 999;", 9);
        fault("height 32 is 10;", 7);
        fault("bog 51 51;", 4);
        fault("bog 51", 4);
        fault("bog x 51", 4);
        fault("x;bog 51;", 0);
        fault("bog 3;x;bog 51;", 6);
        fault("sworn ta 32;", 6);
    }

    /** Each TEXT may tell a CELL and a LAW again: the latest holds. */
    private static void toldTwice() {
        SpringOaths x = new SpringOaths();
        Check.due("moor", Check.moor(x, "bog 3;bog 9;height 1 is 1;height 1 is 8;water 1 is 1;water 1 is 12;"), 0);
        Check.due("lawOf(2)", x.lawOf(2), 9);
        Check.due("cell(1, 1)", x.cell(1, 1), 8);
        Check.due("cell(1, 0)", x.cell(1, 0), 12);
        Check.due("lowest(2), now none is less", x.lowest(2), SpringOaths.NONE);
        Check.due("lowest(1)", x.lowest(1), 0);
        Check.due("two at one cell", Check.moor(x, "sworn at 1;sworn at 1;"), 2);
    }

    /** "What it doesn't tell is as at first", YEAR too. */
    private static void asAtFirst() {
        SpringOaths x = Moors.full();
        Check.due("moor", Check.moor(x, "doubter at 7;"), 1);
        int[] laws = {2, 3, 20, 20};
        for (int law = 0; law < 4; law++) {
            Check.due("lawOf(" + law + ")", x.lawOf(law), laws[law]);
        }
        for (int cell = 0; cell < 32; cell++) {
            Check.due("water", x.cell(cell, 0), 0);
            Check.due("height", x.cell(cell, 1), 5);
            Check.due("lowest", x.lowest(cell), SpringOaths.NONE);
        }
        Check.due("year", x.state(0), 0);
        Check.due("people", x.many(0), 1);
        Check.due("the next one's number", x.person(0, 0, 0, 0), 1);
    }

    private static void zStays() {
        SpringOaths x = new SpringOaths();
        x.seed(Integer.MIN_VALUE);
        Check.due("moor", Check.moor(x, "bog 3;"), 0);
        Check.due("z", x.seed(-1), Integer.MIN_VALUE);
        Check.due("refused", Check.moor(x, "bog"), -103);
        Check.due("z", x.seed(0), -1);
    }

    /** "There are no ROWS then"; a refused one changes nothing. */
    private static void noRows() {
        SpringOaths x = Moors.full();
        Check.due("refused", Check.moor(x, "b"), -100);
        Check.due("rows", x.many(4), 10);
        Check.due("moor", x.moor(), 0);
        Check.due("no rows", x.many(4), 0);
        Check.due("no row", x.row(0, 0), -9);
        x.person(0, 0, 0, 0);
        Check.due("all is right, as there are none", x.judge(0), 0);
    }

    /** "THE TAPE becomes all" of the moor alone: every SHEET, every SHELF with a row, THE TRACE stay, item by item. */
    private static void theRestStays() {
        SpringOaths x = Moors.full();
        int[] sizes = {40, 8, 3, 0};
        for (int i = 0; i < 4; i++) {
            x.shelf(i, 1, i);
        }
        int bodies = x.many(6);
        Check.due("moor", Check.moor(x, "sworn at 3;"), 1);
        for (int sheet = 0; sheet < 4; sheet++) {
            for (int i = 0; i < sizes[sheet]; i++) {
                int due = i == 0 ? -7 : i == sizes[sheet] - 1 ? 100 + sheet : 0;
                Check.due("item(" + sheet + ", " + sheet + ", " + i + ")", x.item(sheet, sheet, i), due);
            }
            Check.due("behind the last", x.item(sheet, sheet, sizes[sheet]), -12);
            Check.due("taken(" + sheet + ", " + (10 + sheet) + ")", x.taken(sheet, 10 + sheet), sizes[sheet]);
        }
        Check.holds("there was a trace", bodies > 0);
        Check.due("many(6)", x.many(6), bodies);
    }
}
