/** Promises 1 to 3: a new object, THE TAPE, and the TEXT. */
public final class TapeTest {
    public static void main(String[] args) {
        newObject();
        feed();
        wholeText();
        allByItAlone();
        people();
        laws();
        cells();
        blanks();
        faults();
        faultsOfNumbers();
        faultsAtTheEnd();
        olderBytes();
        ninthPerson();
        refusedText();
        Check.end("TapeTest");
    }

    private static void newObject() {
        SpringOaths x = new SpringOaths();
        Check.due("many(0)", x.many(0), 0);
        Check.due("again()", x.again(), SpringOaths.NONE);
        Check.due("many(4)", x.many(4), 0);
        Check.due("many(5)", x.many(5), 0);
        Check.due("many(6)", x.many(6), 0);
        Check.due("seed(1)", x.seed(1), 1);
        int[] laws = {2, 3, 20, 20};
        for (int law = 0; law < 4; law++) {
            Check.due("lawOf(" + law + ")", x.lawOf(law), laws[law]);
            Check.due("item(" + law + ", 0, 0)", x.item(law, 0, 0), -11);
            Check.due("taken(" + law + ", 0)", x.taken(law, 0), -11);
        }
        for (int cell = 0; cell < 32; cell++) {
            Check.due("cell(" + cell + ", 0)", x.cell(cell, 0), 0);
            Check.due("cell(" + cell + ", 1)", x.cell(cell, 1), 5);
        }
        Check.due("state(0)", x.state(0), 0);
        Check.due("BAD", SpringOaths.BAD, -1);
        Check.due("FULL", SpringOaths.FULL, -2);
        Check.due("NONE", SpringOaths.NONE, -3);
    }

    private static void feed() {
        SpringOaths x = new SpringOaths();
        Check.due("feed n 0", x.feed(59, 0), SpringOaths.BAD);
        Check.due("feed n -1", x.feed(59, -1), SpringOaths.BAD);
        Check.due("feed n 9", x.feed(59, 9), SpringOaths.BAD);
        for (int n = 1; n <= 24; n++) {
            Check.due("feed eight blanks", x.feed(0x2020202020202020L, 8), 8 * n);
        }
        Check.due("feed 7", x.feed(0x2020202020202020L, 7), 199);
        Check.due("feed 2 of 1 left", x.feed(0x2020L, 2), SpringOaths.FULL);
        Check.due("many(5)", x.many(5), 199);
        Check.due("feed 1", x.feed(0xFFFFFF20L, 1), 200);
        Check.due("feed 1 of 0 left", x.feed(0x20L, 1), SpringOaths.FULL);
        Check.due("feed n 9 of 0 left", x.feed(0x20L, 9), SpringOaths.BAD);
        Check.due("moor() of blanks", x.moor(), 0);
        Check.due("many(5)", x.many(5), 0);
        // "bog 7;" as one number, the lowest byte first
        Check.due("feed bog", x.feed(0x3B3720676F62L, 6), 6);
        Check.due("moor()", x.moor(), 0);
        Check.due("lawOf(2)", x.lawOf(2), 7);
    }

    private static void wholeText() {
        SpringOaths x = new SpringOaths();
        Check.due("moor", Check.moor(x, "sworn at 0;engineer at 31 sure 0 sense 9;height 4 is 9;water 31 is 99;"
            + "spring 9;seep 0;bog 50;drink 99;dowser at 7 sure 99;"), 3);
        Check.due("of(1, 0)", x.of(1, 0), 1);
        Check.due("of(1, 1)", x.of(1, 1), 9);
        Check.due("of(1, 2)", x.of(1, 2), 0);
        Check.due("of(1, 3)", x.of(1, 3), 31);
        Check.due("of(2, 0)", x.of(2, 0), 4);
        Check.due("of(2, 2)", x.of(2, 2), 99);
        Check.due("cell(4, 1)", x.cell(4, 1), 9);
        Check.due("lowest(4)", x.lowest(4), 3);
        Check.due("cell(31, 0)", x.cell(31, 0), 99);
        Check.due("lawOf(0)", x.lawOf(0), 9);
        Check.due("lawOf(1)", x.lawOf(1), 0);
        Check.due("lawOf(2)", x.lawOf(2), 50);
        Check.due("lawOf(3)", x.lawOf(3), 99);
        Check.due("many(5)", x.many(5), 0);
    }

    private static void allByItAlone() {
        SpringOaths x = new SpringOaths();
        x.person(1, 2, 60, 3);
        x.set(0, 9);
        x.set(3, 1);
        x.height(5, 1);
        x.water(5, 77);
        x.years(3);
        x.seed(1234);
        x.sheet(1, 2, 3);
        x.shelf(0, 0, 0);
        x.shelf(1, 1, 1);
        x.act(0, 1, 5);
        x.prove(0, 4);
        x.keep();
        x.seed(4321);
        Check.due("moor", Check.moor(x, ""), 0);
        Check.due("many(0)", x.many(0), 0);
        Check.due("lawOf(0)", x.lawOf(0), 2);
        Check.due("lawOf(3)", x.lawOf(3), 20);
        Check.due("cell(5, 0)", x.cell(5, 0), 0);
        Check.due("cell(5, 1)", x.cell(5, 1), 5);
        Check.due("many(3)", x.many(3), 32);
        Check.due("state(0)", x.state(0), 0);
        Check.due("many(4)", x.many(4), 0);
        Check.due("row(0, 0)", x.row(0, 0), -9);
        Check.due("seed", x.seed(1), 4321);
        Check.due("item", x.item(1, 2, 2), 0);
        Check.due("taken, one that is gone", x.taken(0, 0), -11);
        Check.due("taken, a row", x.taken(1, 12), 3);
        Check.due("many(6)", x.many(6), 3);
        Check.due("again()", x.again(), 1);
        Check.due("seed", x.seed(1), 1234);
        Check.due("taken, one that is back", x.taken(0, 0), 0);
    }

    private static void people() {
        String[] kinds = {"sworn", "engineer", "doubter", "expert", "dowser", "drunkard"};
        SpringOaths x = new SpringOaths();
        for (int kind = 0; kind < 6; kind++) {
            Check.due(kinds[kind], Check.moor(x, kinds[kind] + " at 17 ;"), 1);
            Check.due("of(0, 0)", x.of(0, 0), kind);
            Check.due("of(0, 1)", x.of(0, 1), 0);
            Check.due("of(0, 2)", x.of(0, 2), 50);
            Check.due("of(0, 3)", x.of(0, 3), 17);
        }
        Check.due("sense alone", Check.moor(x, "doubter at 2 sense 6;"), 1);
        Check.due("of(0, 1)", x.of(0, 1), 6);
        Check.due("of(0, 2)", x.of(0, 2), 50);
        Check.due("eight", Check.moor(x, "sworn at 0;sworn at 1;sworn at 2;sworn at 3;sworn at 4;sworn at 5;"
            + "sworn at 6;dowser at 7;"), 8);
        Check.due("of(7, 0)", x.of(7, 0), 4);
    }

    private static void laws() {
        String[] names = {"spring", "seep", "bog", "drink"};
        int[] most = {9, 9, 50, 99};
        SpringOaths x = new SpringOaths();
        for (int law = 0; law < 4; law++) {
            Check.due(names[law], Check.moor(x, names[law] + " " + most[law] + ";"), 0);
            Check.due("lawOf(" + law + ")", x.lawOf(law), most[law]);
            Check.due(names[law], Check.moor(x, names[law] + " " + (most[law] + 1) + ";"),
                -100 - names[law].length() - 1);
            Check.due("lawOf(" + law + ")", x.lawOf(law), most[law]);
            Check.due(names[law] + " twice", Check.moor(x, names[law] + " 1;" + names[law] + " 0;"), 0);
            Check.due("lawOf(" + law + ")", x.lawOf(law), 0);
        }
    }

    private static void cells() {
        SpringOaths x = new SpringOaths();
        Check.due("height", Check.moor(x, "height 31 is 0;height 0 is 9;water 0 is 99;water 0 is 10;"), 0);
        Check.due("cell(31, 1)", x.cell(31, 1), 0);
        Check.due("cell(0, 1)", x.cell(0, 1), 9);
        Check.due("cell(0, 0)", x.cell(0, 0), 10);
        Check.due("lowest(30)", x.lowest(30), 31);
        Check.due("lowest(0)", x.lowest(0), 1);
    }

    private static void blanks() {
        SpringOaths x = new SpringOaths();
        Check.due("many blanks", Check.moor(x, "   sworn   at  007   sure 1  sense 2  ;  bog 3 ;  "), 1);
        Check.due("of(0, 3)", x.of(0, 3), 7);
        Check.due("lawOf(2)", x.lawOf(2), 3);
        Check.due("few blanks", Check.moor(x, "sworn at8sure99sense3;height9is1;seep1;"), 1);
        Check.due("of(0, 3)", x.of(0, 3), 8);
        Check.due("of(0, 2)", x.of(0, 2), 99);
        Check.due("of(0, 1)", x.of(0, 1), 3);
        Check.due("cell(9, 1)", x.cell(9, 1), 1);
        Check.due("lawOf(1)", x.lawOf(1), 1);
    }

    private static void fault(String text, int at) {
        Check.due("moor of '" + text + "'", Check.moor(new SpringOaths(), text), -100 - at);
    }

    private static void faults() {
        fault("swornat 3;", 0);
        fault("swor at 3;", 0);
        fault("sworns at 3;", 0);
        fault("swornz at 3;", 0);
        fault("sworn ata 3;", 6);
        fault("sworn at z3;", 9);
        fault("sworn  att 3;", 7);
        fault("sworn 3;", 6);
        fault("sworn at at 3;", 9);
        fault("sworn at 3,", 10);
        fault("sworn at 3 sense 1 sure 2;", 19);
        fault("sworn at 3 sure 1 sure 2;", 18);
        fault("sworn at 3 sense 1 sense 2;", 19);
        fault("sworn at 3 is 2;", 11);
        fault("sworn at 3;;", 11);
        fault(" ;", 1);
        fault("Sworn at 3;", 0);
        fault("sworn at 3; 5", 12);
        fault("height 3 4;", 9);
        fault("height 3 is is 4;", 12);
        fault("height is 4;", 7);
        fault("water 3 at 4;", 8);
        fault("spring is 4;", 7);
        fault("bog 4 4;", 6);
        fault("bog 4\n;", 5);
        fault("\tbog 4;", 0);
        fault("bog \u00e9;", 4);
        fault("bog 4;{", 6);
        fault("at 3;", 0);
        fault("sure 3;", 0);
        fault("is 3;", 0);
        fault("bog -1;", 4);
    }

    private static void faultsOfNumbers() {
        fault("sworn at 32;", 9);
        fault("sworn at 0003;", 9);
        fault("sworn at 3 sure 100;", 16);
        fault("sworn at 3 sense 10;", 17);
        fault("sworn at 3 sure 99 sense 99;", 25);
        fault("height 32 is 1;", 7);
        fault("height 1 is 10;", 12);
        fault("water 1 is 100;", 11);
        fault("water 99 is 100;", 6);
        fault("bog 51;", 4);
        fault("bog 0000;", 4);
        fault("bog 4294967296;", 4);
        fault("bog 18446744073709551616;", 4);
    }

    private static void faultsAtTheEnd() {
        fault("sworn", 5);
        fault("sworn ", 6);
        fault("sworn at", 8);
        fault("sworn at 3", 10);
        fault("sworn at 3  ", 12);
        fault("sworn at 3 sure", 15);
        fault("sworn at 3 sure 4 sense ", 24);
        fault("height", 6);
        fault("height 3", 8);
        fault("height 3 is", 11);
        fault("height 3 is 4", 13);
        fault("drink", 5);
        fault("drink 7", 7);
        fault("drink 7777", 6);
        fault("dri", 0);
        StringBuilder full = new StringBuilder("sworn at 3");
        while (full.length() < 200) {
            full.append(' ');
        }
        fault(full.toString(), 200);
        full.setLength(199);
        Check.due("a full tape", Check.moor(new SpringOaths(), full + ";"), 1);
    }

    /** What an earlier and longer TEXT left on the tape isn't read. */
    private static void olderBytes() {
        SpringOaths x = new SpringOaths();
        Check.due("older letters", Check.moor(x, "swornsworn"), -100);
        Check.due("the end", Check.moor(x, "sworn"), -105);
        Check.due("older digits", Check.moor(x, "bog 1234"), -104);
        Check.due("the end", Check.moor(x, "bog 123"), -104);
        Check.due("the end", Check.moor(x, "bog 12"), -106);
        Check.due("older sign", Check.moor(x, "bog 1;"), 0);
        Check.due("the end", Check.moor(x, "bog 1"), -105);
        Check.due("older blanks", Check.moor(x, "bog 1;     "), 0);
        Check.due("law", x.lawOf(2), 1);
        StringBuilder full = new StringBuilder();
        while (full.length() < 195) {
            full.append(' ');
        }
        Check.due("a name at the very end", Check.moor(x, full + "sworn"), -300);
        Check.due("a number at the very end", Check.moor(x, full + "bog 1"), -300);
        Check.due("a part of a name at the very end", Check.moor(x, full + "heigh"), -295);
    }

    private static void ninthPerson() {
        String eight = "sworn at 0;sworn at 1;sworn at 2;sworn at 3;sworn at 4;sworn at 5;sworn at 6;sworn at 7;";
        Check.due("eight", Check.moor(new SpringOaths(), eight + "bog 1;"), 8);
        fault(eight + "  dowser at 99", eight.length() + 2);
        fault(eight + "sworn", eight.length());
        fault(eight + "sworm", eight.length());
    }

    private static void refusedText() {
        SpringOaths x = new SpringOaths();
        x.person(1, 2, 60, 3);
        x.prove(0, 2);
        x.set(0, 7);
        Check.due("moor", Check.moor(x, "spring 1;height 1 is 1;sworn at 3"), -133);
        Check.due("many(0)", x.many(0), 1);
        Check.due("lawOf(0)", x.lawOf(0), 7);
        Check.due("cell(1, 1)", x.cell(1, 1), 5);
        Check.due("lowest(0)", x.lowest(0), SpringOaths.NONE);
        Check.due("many(4)", x.many(4), 2);
        Check.due("many(5)", x.many(5), 0);
    }
}
