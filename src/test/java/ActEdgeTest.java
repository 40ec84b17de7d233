/** The edges of promises 45 to 49: ACTS and THE TRACE, how many there are, moors kept. */
public final class ActEdgeTest {
    private static final int BAD = SpringOaths.BAD;
    private static final int NONE = SpringOaths.NONE;
    private static final int MIN = Integer.MIN_VALUE;
    private static final int MAX = Integer.MAX_VALUE;
    private static final int SWORN = 0;
    private static final int ENGINEER = 1;
    private static final int DOUBTER = 2;
    private static final int EXPERT = 3;
    private static final int DOWSER = 4;
    private static final int DRUNKARD = 5;

    public static void main(String[] args) {
        actRanges();
        nothingActs();
        bodies();
        wraps();
        partsAreCut();
        partedByZero();
        partedByZeroInside();
        senseAndNumber();
        kindOfNow();
        traceRanges();
        traceOfTheLatest();
        manyRanges();
        againNone();
        keptOfNothing();
        keptOfAll();
        keptLatest();
        keptIsNotShared();
        Check.end("ActEdgeTest");
    }

    /** One with number n, alone on shelf 0. */
    private static SpringOaths thing(int kind, int n, int sense) {
        SpringOaths x = new SpringOaths();
        for (int i = 0; i < n; i++) {
            x.person(SWORN, 0, 0, 0);
        }
        x.person(kind, sense, 0, 0);
        x.shelf(0, 0, n);
        return x;
    }

    private static void act(SpringOaths x, int act, int v, int due, int... trace) {
        Check.due("act(0, " + act + ", " + v + ")", x.act(0, act, v), due);
        Check.due("many(6)", x.many(6), trace.length);
        for (int i = 0; i < trace.length; i++) {
            Check.due("trace(" + i + ")", x.trace(i), trace[i]);
        }
        Check.due("trace(" + trace.length + ")", x.trace(trace.length), NONE);
    }

    /** "0, and no TRACE then". */
    private static void actRanges() {
        SpringOaths x = thing(SWORN, 2, 4);
        act(x, 0, 1, 7, 10);
        act(x, 3, 1, (1 + 6 - 4) ^ 9, 13, 11, 10);
        act(x, 4, 1, 0);
        act(x, 0, 1, 7, 10);
        act(x, -1, 1, 0);
        act(x, MAX, 1, 0);
        act(x, MIN, 1, 0);
        for (int shelf : new int[] {4, -1, MIN, MAX}) {
            act(x, 0, 1, 7, 10);
            Check.due("shelf " + shelf, x.act(shelf, 0, 1), 0);
            Check.due("no trace", x.many(6), 0);
            Check.due("no trace", x.trace(0), NONE);
        }
        x.shelf(3, 0, 2);
        Check.due("shelf 3", x.act(3, 0, 1), 7);
    }

    private static void nothingActs() {
        SpringOaths x = thing(SWORN, 0, 4);
        x.sheet(0, 0, 0);
        x.sheet(1, 3, 40);
        x.shelf(1, 1, 0);
        x.shelf(2, 1, 1);
        for (int shelf = 1; shelf < 4; shelf++) {
            for (int act = 0; act < 4; act++) {
                act(x, 0, 1, 1, 10);
                Check.due("act(" + shelf + ", " + act + ", 1)", x.act(shelf, act, 1), 0);
                Check.due("no trace", x.many(6), 0);
            }
        }
    }

    /** Each ACT of each KIND, by number 2 with SENSE 5. */
    private static void bodies() {
        SpringOaths sworn = thing(SWORN, 2, 5);
        act(sworn, 0, 10, 16, 10);
        act(sworn, 1, 10, 11, 11, 10);
        act(sworn, 2, 10, 3, 12);
        act(sworn, 3, 10, 11 ^ 9, 13, 11, 10);
        SpringOaths engineer = thing(ENGINEER, 2, 5);
        act(engineer, 0, 10, 16, 10);
        act(engineer, 1, 10, 22, 20, 11, 10);
        act(engineer, 2, 10, 3, 12);
        act(engineer, 3, 10, 22 ^ 9, 13, 20, 11, 10);
        SpringOaths doubter = thing(DOUBTER, 2, 5);
        act(doubter, 0, 10, 17, 30, 10);
        act(doubter, 1, 10, 12, 11, 30, 10);
        act(doubter, 2, 10, 3, 12);
        act(doubter, 3, 10, (12 ^ 9) - 0, 31, 13, 11, 30, 10, 12);
        SpringOaths expert = thing(EXPERT, 2, 5);
        act(expert, 0, 10, 16 ^ 2, 51, 10);
        act(expert, 1, 10, ((16 ^ 2) - 5) * 2, 20, 11, 51, 10);
        act(expert, 2, 10, 13 - 5, 50, 12);
        act(expert, 3, 10, ((16 ^ 2) - 5) * 2 ^ 9, 13, 20, 11, 51, 10);
        SpringOaths dowser = thing(DOWSER, 2, 5);
        act(dowser, 0, 10, -17, 40, 30, 10);
        act(dowser, 1, 10, -22 - 12, 41, 11, 40, 30, 10, 40, 30, 10);
        act(dowser, 2, 10, 3, 12);
        act(dowser, 3, 10, (-34 ^ 9) - 0, 31, 13, 41, 11, 40, 30, 10, 40, 30, 10, 12);
        act(thing(EXPERT, 2, 5), 0, 12, 18 ^ 2, 51, 10);
        act(thing(DOUBTER, 3, 4), 3, 10, (10 + 9 + 1 - 4 ^ 9) - 3, 31, 13, 11, 30, 10, 12);
        act(thing(DOWSER, 3, 1), 3, 10, (-20 - 1 - 11 ^ 9) + 1, 31, 13, 41, 11, 40, 30, 10, 40, 30, 10, 12);
        SpringOaths drunkard = thing(DRUNKARD, 2, 5);
        act(drunkard, 0, 10, 16, 10);
        act(drunkard, 1, 10, 11, 11, 10);
        act(drunkard, 2, 10, 3 + 8, 61, 12, 10);
        act(drunkard, 3, 10, 50 - (11 ^ 9), 60, 13, 11, 10);
    }

    /** "Ints that wrap". */
    private static void wraps() {
        SpringOaths sworn = thing(SWORN, 7, 9);
        act(sworn, 0, MAX, MIN + 20, 10);
        SpringOaths first = thing(SWORN, 0, 9);
        act(first, 1, MIN, MAX - 8, 11, 10);
        SpringOaths engineer = thing(ENGINEER, 0, 0);
        act(engineer, 1, MAX, -2, 20, 11, 10);
        act(engineer, 1, MIN, 0, 20, 11, 10);
        SpringOaths dowser = thing(DOWSER, 0, 1);
        act(dowser, 0, MAX, MIN, 40, 30, 10);
        act(dowser, 0, MIN, MAX, 40, 30, 10);
        SpringOaths expert = thing(EXPERT, 0, 1);
        act(expert, 2, 1 << 30, -1, 50, 12);
        act(expert, 2, MAX, -5, 50, 12);
        SpringOaths drunkard = thing(DRUNKARD, 0, 0);
        act(drunkard, 3, MAX, 50 - (MAX ^ 9), 60, 13, 11, 10);
        SpringOaths least = thing(SWORN, 2, 1);
        act(least, 2, MIN, MIN, 12);
        act(least, 2, MAX, -MAX, 12);
    }

    /** "Cut": towards 0 from both sides, by what is above or below 0. */
    private static void partsAreCut() {
        SpringOaths by3 = thing(SWORN, 2, 5);
        int[] due = {-2, -1, -1, -1, 0, 0, 0, 0, 0, 1, 1, 1, 2};
        for (int v = -6; v <= 6; v++) {
            act(by3, 2, v, due[v + 6], 12);
        }
        SpringOaths byLess = thing(SWORN, 3, 0);
        for (int v = -6; v <= 6; v++) {
            act(byLess, 2, v, -due[v + 6], 12);
        }
        SpringOaths by9 = thing(SWORN, 0, 9);
        act(by9, 2, 8, 0, 12);
        act(by9, 2, 9, 1, 12);
        act(by9, 2, -8, 0, 12);
        act(by9, 2, -9, -1, 12);
        SpringOaths by1 = thing(SWORN, 0, 1);
        act(by1, 2, MIN, MIN, 12);
        SpringOaths byLessOne = thing(SWORN, 1, 0);
        act(byLessOne, 2, 7, -7, 12);
    }

    /** "-15 if these are the same": for each number; next to it on both sides it isn't. */
    private static void partedByZero() {
        for (int n = 0; n < 8; n++) {
            for (int sense = 0; sense <= 9; sense++) {
                SpringOaths x = thing(SWORN, n, sense);
                act(x, 2, 100, sense == n ? -15 : 100 / (sense - n), 12);
            }
        }
        SpringOaths x = thing(SWORN, 0, 0);
        act(x, 2, 0, -15, 12);
        SpringOaths y = thing(SWORN, 0, 1);
        act(y, 2, -15, -15, 12);
    }

    /** "That is all that act() answers then", whatever else is asked; bodies that had begun are in THE TRACE. */
    private static void partedByZeroInside() {
        act(thing(DOUBTER, 1, 1), 3, 9, -15, 31, 13, 11, 30, 10, 12);
        act(thing(DOWSER, 3, 3), 3, 9, -15, 31, 13, 41, 11, 40, 30, 10, 40, 30, 10, 12);
        act(thing(EXPERT, 3, 3), 2, 9, -15, 50, 12);
        act(thing(DRUNKARD, 3, 3), 2, 9, -15, 61, 12);
        act(thing(ENGINEER, 3, 3), 2, 9, -15, 12);
        SpringOaths x = thing(DRUNKARD, 3, 3);
        act(x, 2, 9, -15, 61, 12);
        act(x, 0, 9, 18, 10);
        act(x, 2, 9, -15, 61, 12);
        x.mind(3, DRUNKARD, 4);
        act(x, 2, 9, 9 + 12, 61, 12, 10);
    }

    /** The least and the most of n and of SENSE. */
    private static void senseAndNumber() {
        act(thing(SWORN, 0, 0), 1, 0, 0, 11, 10);
        act(thing(SWORN, 7, 0), 1, 0, 21, 11, 10);
        act(thing(SWORN, 0, 9), 1, 0, -9, 11, 10);
        act(thing(SWORN, 7, 9), 1, 0, 12, 11, 10);
        act(thing(SWORN, 7, 9), 2, 3, 1, 12);
        act(thing(SWORN, 7, 0), 2, 7, -1, 12);
    }

    /** One is a thing of the KIND, and with the SENSE, that it has now. */
    private static void kindOfNow() {
        SpringOaths x = thing(SWORN, 1, 4);
        act(x, 1, 0, -1, 11, 10);
        x.mind(1, ENGINEER, 4);
        act(x, 1, 0, -2, 20, 11, 10);
        x.mind(1, ENGINEER, 9);
        act(x, 1, 0, -12, 20, 11, 10);
        Check.due("the trace stays", x.many(6), 3);
        x.sure(1, 0);
        act(x, 1, 0, -12, 20, 11, 10);
    }

    private static void traceRanges() {
        SpringOaths x = new SpringOaths();
        Check.due("none yet", x.trace(0), NONE);
        SpringOaths y = thing(DOWSER, 0, 5);
        y.act(0, 3, 1);
        Check.due("many(6)", y.many(6), 11);
        Check.due("the first", y.trace(0), 31);
        Check.due("the last", y.trace(10), 12);
        for (int i : new int[] {11, 29, 30, 31, -1, MIN, MAX}) {
            Check.due("trace(" + i + ")", y.trace(i), NONE);
        }
    }

    private static void traceOfTheLatest() {
        SpringOaths x = thing(DOWSER, 0, 5);
        act(x, 3, 1, -13 ^ 9, 31, 13, 41, 11, 40, 30, 10, 40, 30, 10, 12);
        act(x, 0, 1, -2, 40, 30, 10);
        x.years(1);
        x.keep();
        x.again();
        x.prove(0, 1);
        Check.due("it stays", x.many(6), 3);
        x.moor();
        Check.due("it stays", x.trace(0), 40);
        Check.due("nobody acts", x.act(0, 0, 1), 0);
        Check.due("no trace", x.trace(0), NONE);
    }

    private static void manyRanges() {
        SpringOaths x = Moors.fullWithTape();
        int[] due = {8, x.many(1), x.many(2), x.many(3), 10, 200, 11};
        for (int what = 0; what < 7; what++) {
            Check.due("many(" + what + ")", x.many(what), due[what]);
        }
        Check.due("wet", x.many(1), Long.bitCount(x.wets(0)));
        Check.due("lost", x.many(2), Integer.bitCount(x.state(2)));
        Check.due("without a lowest", x.many(3), Long.bitCount(x.wets(2)));
        Check.due("many(7)", x.many(7), BAD);
        Check.due("many(-1)", x.many(-1), BAD);
        Check.due("many(MIN)", x.many(MIN), BAD);
        Check.due("many(MAX)", x.many(MAX), BAD);
    }

    /** "NONE: nothing is kept", until the first keep(). */
    private static void againNone() {
        SpringOaths x = Moors.full();
        SpringOaths y = new SpringOaths();
        y.person(0, 1, 2, 3);
        Check.due("again()", y.again(), NONE);
        Check.due("many(0)", y.many(0), 1);
        y.moor();
        Check.due("again()", y.again(), NONE);
        Check.due("keep()", y.keep(), 1);
        Check.due("again()", y.again(), 0);
        Check.due("again()", x.again(), 8);
    }

    private static void keptOfNothing() {
        SpringOaths x = new SpringOaths();
        Check.due("keep()", x.keep(), 1);
        Check.moor(x, "dowser at 3;bog 9;height 3 is 8;water 4 is 5;");
        x.years(3);
        x.seed(9);
        Check.due("again()", x.again(), 0);
        Check.due("bog", x.lawOf(2), 20);
        Check.due("height", x.cell(3, 1), 5);
        Check.due("lowest", x.lowest(3), NONE);
        Check.due("water", x.state(1), 0);
        Check.due("year", x.state(0), 0);
        Check.due("nobody", x.of(0, 0), BAD);
        Check.due("z", x.seed(0), 1);
    }

    /** "All but THE TAPE, ROWS, SHEETS, SHELVES, THE TRACE". */
    private static void keptOfAll() {
        SpringOaths x = Moors.full();
        x.keep();
        SpringOaths y = Moors.full();
        Check.moor(x, "sworn at 1;");
        x.seed(4);
        x.sheet(0, 1, 2);
        x.shelf(0, 2, 0);
        x.prove(0, 2);
        x.feed(0, 3);
        x.act(1, 0, 0);
        Check.due("again()", x.again(), 8);
        for (int what = 0; what < 5; what++) {
            Check.due("state(" + what + ")", x.state(what), y.state(what));
        }
        for (int cell = 0; cell < 32; cell++) {
            Check.due("water", x.cell(cell, 0), y.cell(cell, 0));
            Check.due("height", x.cell(cell, 1), y.cell(cell, 1));
            Check.due("lowest", x.lowest(cell), y.lowest(cell));
        }
        for (int i = 0; i < 8; i++) {
            for (int what = 0; what < 8; what++) {
                Check.due("of(" + i + ", " + what + ")", x.of(i, what), y.of(i, what));
            }
        }
        for (int law = 0; law < 4; law++) {
            Check.due("lawOf(" + law + ")", x.lawOf(law), y.lawOf(law));
        }
        Check.due("z", x.seed(0), y.seed(0));
        Check.due("the sheet isn't", x.item(0, 1, 1), 0);
        Check.due("the shelf isn't", x.taken(0, 0), -11);
        Check.due("rows aren't", x.many(4), 2);
        Check.due("the tape isn't", x.many(5), 3);
        Check.due("the trace isn't", x.many(6), 0);
    }

    private static void keptLatest() {
        SpringOaths x = new SpringOaths();
        for (int i = 1; i <= 8; i++) {
            x.person(0, i, 50, 0);
            Check.due("keep()", x.keep(), 1);
        }
        x.moor();
        Check.due("the latest", x.again(), 8);
        Check.due("it stays", x.again(), 8);
        x.moor();
        x.keep();
        Check.due("the latest", x.again(), 0);
    }

    /** What changes afterwards changes nothing of what is kept, nor does again() tie them. */
    private static void keptIsNotShared() {
        SpringOaths x = new SpringOaths();
        x.person(1, 2, 33, 4);
        x.keep();
        for (int i = 0; i < 2; i++) {
            x.set(0, 9);
            x.mind(0, 5, 9);
            x.sure(0, 99);
            x.bring(0, 9);
            x.water(9, 99);
            x.height(9, 0);
            x.seed(123);
            x.years(7);
            Check.due("again()", x.again(), 1);
            int[] of = {1, 2, 33, 4};
            for (int what = 0; what < 4; what++) {
                Check.due("of(0, " + what + ")", x.of(0, what), of[what]);
            }
            Check.due("spring", x.lawOf(0), 2);
            Check.due("water", x.state(1), 0);
            Check.due("height", x.cell(9, 1), 5);
            Check.due("lowest", x.lowest(10), NONE);
            Check.due("year", x.state(0), 0);
            Check.due("z", x.seed(1), 1);
        }
    }
}
