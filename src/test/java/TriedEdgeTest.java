/** The edges of promises 22 to 30, and 32: what is TRIED. */
public final class TriedEdgeTest {
    private static final int BAD = SpringOaths.BAD;
    private static final int NONE = SpringOaths.NONE;
    private static final int SWORN = 0;
    private static final int DOUBTER = 2;
    private static final int EXPERT = 3;
    private static final int DOWSER = 4;
    private static final int DRUNKARD = 5;

    public static void main(String[] args) {
        levelRanges();
        dampFromTen();
        dampAtSixty();
        dampIsTheFirst();
        lossFromZero();
        lossAtSixty();
        nobodyDrowns();
        drownedAtSixty();
        allAtOnce();
        whereRanges();
        whereOfSeveral();
        kindRanges();
        kindOfSeveral();
        annoyedFromZero();
        annoyedByNinetyNine();
        annoyedByTen();
        annoyedRanges();
        neededLess();
        neededOfSeveral();
        neededRanges();
        nobodyStaysLeftOut();
        fewestNobody();
        fewestOfSeveral();
        fewestAll();
        fewestWhoDisagree();
        fewestRanges();
        fitsAny();
        fitsHowMany();
        fitsBySorts();
        fitsForty();
        fitsRefuses();
        Check.end("TriedEdgeTest");
    }

    /** One expert at cell 3, from whom as much comes a year as SPRING tells. */
    private static SpringOaths spring(int spring) {
        SpringOaths x = new SpringOaths();
        x.set(0, spring);
        x.person(EXPERT, 0, 0, 3);
        return x;
    }

    private static void levelRanges() {
        SpringOaths x = spring(1);
        x.water(3, 7);
        x.water(31, 99);
        Check.due("level(3, 0)", x.level(3, 0), 7);
        Check.due("level(3, 1)", x.level(3, 1), 8);
        Check.due("level(3, 60)", x.level(3, 60), 67);
        Check.due("level(3, 61)", x.level(3, 61), BAD);
        Check.due("level(3, -1)", x.level(3, -1), BAD);
        Check.due("level(0, 0)", x.level(0, 0), 0);
        Check.due("level(31, 60)", x.level(31, 60), 99);
        Check.due("level(32, 0)", x.level(32, 0), BAD);
        Check.due("level(-1, 0)", x.level(-1, 0), BAD);
        x.water(3, 40);
        Check.due("held to 99", x.level(3, 60), 99);
        Check.due("one less", x.level(3, 58), 98);
        Check.due("tried", x.cell(3, 0), 40);
    }

    private static void dampFromTen() {
        SpringOaths x = spring(1);
        for (int water = 0; water < 13; water++) {
            x.water(3, water);
            Check.due("damp from " + water, x.damp(3), water < 10 ? 10 - water : 0);
        }
        Check.due("damp(0)", x.damp(0), NONE);
        Check.due("damp(31)", x.damp(31), NONE);
        Check.due("damp(32)", x.damp(32), BAD);
        Check.due("damp(-1)", x.damp(-1), BAD);
    }

    /** Cell 0 has one more each year, and gives one to cell 1 from the 52nd on. */
    private static SpringOaths lateSpring(int water) {
        SpringOaths x = new SpringOaths();
        x.set(0, 1);
        x.set(2, 50);
        x.height(0, 9);
        x.person(EXPERT, 0, 0, 0);
        x.water(0, water);
        return x;
    }

    /** "0 to 60": behind 60 YEARS it counts, behind 61 it doesn't. */
    private static void dampAtSixty() {
        SpringOaths x = lateSpring(1);
        Check.due("level(1, 59)", x.level(1, 59), 9);
        Check.due("level(1, 60)", x.level(1, 60), 10);
        Check.due("in sixty years", x.damp(1), 60);
        SpringOaths y = lateSpring(0);
        Check.due("level(1, 60)", y.level(1, 60), 9);
        Check.due("not by then", y.damp(1), NONE);
        y.years(1);
        Check.due("a year later by then", y.damp(1), 60);
    }

    /** "Is WET first": it needn't stay so. */
    private static void dampIsTheFirst() {
        SpringOaths x = new SpringOaths();
        x.set(2, 0);
        x.height(0, 9);
        x.height(1, 6);
        x.water(0, 20);
        Check.due("now", x.damp(0), 0);
        Check.due("dry behind two", x.level(0, 2), 5);
        Check.due("behind one", x.damp(2) < 0 ? NONE : 0, NONE);
        x.water(0, 40);
        // 40 > 20 > 10; cell 8, the lowest, has 20 then
        Check.due("lowest(0)", x.lowest(0), 8);
        Check.due("damp(8)", x.damp(8), 1);
    }

    private static void lossFromZero() {
        SpringOaths x = new SpringOaths();
        x.water(3, 10);
        x.person(SWORN, 0, 0, 3);
        Check.due("lost now", x.loss(0), 0);
        x.sure(0, 1);
        Check.due("behind one", x.loss(0), 1);
        x.sure(0, 10);
        Check.due("behind one", x.loss(0), 1);
        x.sure(0, 11);
        Check.due("behind two", x.loss(0), 2);
        x.bring(0, 4);
        Check.due("never in a dry one", x.loss(0), NONE);
        Check.due("loss(1)", x.loss(1), BAD);
        Check.due("loss(-1)", x.loss(-1), BAD);
        x.person(EXPERT, 0, 1, 3);
        x.person(DOWSER, 5, 1, 3);
        x.person(DRUNKARD, 0, 99, 3);
        Check.due("an expert", x.loss(1), NONE);
        Check.due("a dowser who loses 0", x.loss(2), NONE);
        Check.due("a drunkard", x.loss(3), 4);
    }

    private static void lossAtSixty() {
        SpringOaths x = new SpringOaths();
        x.water(3, 10);
        x.person(DOWSER, 6, 60, 3);
        Check.due("by one each year", x.loss(0), 60);
        x.sure(0, 61);
        Check.due("not by then", x.loss(0), NONE);
        x.sure(0, 59);
        Check.due("a year before", x.loss(0), 59);
    }

    /** "0, if nobody is there", whatever is WET. */
    private static void nobodyDrowns() {
        SpringOaths x = new SpringOaths();
        Check.due("all dry", x.drowned(), 0);
        x.water(3, 99);
        Check.due("one wet", x.drowned(), 0);
        x.person(SWORN, 0, 0, 3);
        Check.due("who is in it", x.drowned(), 0);
        x.bring(0, 4);
        Check.due("who isn't", x.drowned(), NONE);
    }

    private static void drownedAtSixty() {
        SpringOaths x = lateSpring(1);
        x.bring(0, 0);
        x.person(SWORN, 0, 0, 1);
        Check.due("in sixty years", x.drowned(), 60);
        x.water(0, 0);
        Check.due("not by then", x.drowned(), NONE);
        SpringOaths y = spring(1);
        Check.due("ten", y.drowned(), 10);
        y.water(3, 9);
        Check.due("one", y.drowned(), 1);
        y.water(3, 10);
        Check.due("now", y.drowned(), 0);
    }

    /** All of them WET at one time: one that is no more, when the other is, doesn't do. */
    private static void allAtOnce() {
        SpringOaths x = spring(5);
        x.set(2, 0);
        x.height(0, 6);
        x.water(0, 18);
        x.person(SWORN, 0, 0, 0);
        Check.due("wet now", x.damp(0), 0);
        Check.due("9 behind one", x.level(0, 1), 9);
        Check.due("wet behind two", x.damp(3), 2);
        Check.due("never both", x.drowned(), NONE);
        x.set(2, 20);
        Check.due("both behind two", x.drowned(), 2);
    }

    private static void whereRanges() {
        SpringOaths x = spring(9);
        for (int cell = 0; cell < 32; cell++) {
            Check.due("where for " + cell, x.whereFor(0, cell, 1), cell);
            Check.due("where for " + cell, x.whereFor(0, cell, 9), cell);
        }
        Check.due("n 20", x.whereFor(0, 31, 20), 31);
        x.set(0, 1);
        Check.due("one is more than none", x.whereFor(0, 31, 1), 31);
        Check.due("n 0", x.whereFor(0, 0, 0), BAD);
        Check.due("n 21", x.whereFor(0, 0, 21), BAD);
        Check.due("cell 32", x.whereFor(0, 32, 1), BAD);
        Check.due("cell -1", x.whereFor(0, -1, 1), BAD);
        Check.due("one 1", x.whereFor(1, 0, 1), BAD);
        Check.due("one -1", x.whereFor(-1, 0, 1), BAD);
        Check.due("tried", x.of(0, 3), 3);
    }

    /** "Of several the least": all do as well, two do, the last alone does. */
    private static void whereOfSeveral() {
        SpringOaths x = spring(0);
        x.bring(0, 31);
        Check.due("it makes none", x.whereFor(0, 17, 20), 0);
        x.set(0, 9);
        x.water(17, 99);
        Check.due("it's full", x.whereFor(0, 17, 1), 0);
        SpringOaths y = spring(9);
        y.set(2, 0);
        y.height(9, 7);
        y.height(11, 7);
        y.height(10, 0);
        y.water(10, 91);
        // 4 of 9 come from beside by numbers before it; at the cell itself 9, of which 8 are held
        Check.due("the cell itself", y.whereFor(0, 10, 1), 10);
        y.water(10, 95);
        Check.due("the least of those who fill it", y.whereFor(0, 10, 1), 2);
        Check.due("through another row", y.lowest(2), 10);
    }

    private static void kindRanges() {
        SpringOaths x = new SpringOaths();
        x.person(DRUNKARD, 4, 99, 3);
        Check.due("the last of those who do best", x.kindFor(0, 3, 1), 3);
        Check.due("n 20", x.kindFor(0, 3, 20), 3);
        Check.due("n 0", x.kindFor(0, 3, 0), BAD);
        Check.due("n 21", x.kindFor(0, 3, 21), BAD);
        Check.due("cell 32", x.kindFor(0, 32, 1), BAD);
        Check.due("cell -1", x.kindFor(0, -1, 1), BAD);
        Check.due("one 1", x.kindFor(1, 3, 1), BAD);
        Check.due("one -1", x.kindFor(-1, 3, 1), BAD);
        Check.due("tried", x.of(0, 0), DRUNKARD);
        Check.due("cell 0", x.kindFor(0, 0, 1), 0);
        Check.due("cell 31", x.kindFor(0, 31, 20), 0);
    }

    private static void kindOfSeveral() {
        SpringOaths x = new SpringOaths();
        x.person(DRUNKARD, 4, 99, 3);
        x.set(0, 0);
        Check.due("engineer and expert", x.kindFor(0, 3, 1), 1);
        x.sure(0, 1);
        Check.due("doubter alone", x.kindFor(0, 3, 1), 2);
        x.sure(0, 0);
        Check.due("none wells", x.kindFor(0, 3, 1), 0);
        x.set(0, 1);
        Check.due("expert alone", x.kindFor(0, 3, 1), 3);
        x.water(3, 99);
        Check.due("it's full", x.kindFor(0, 3, 1), 0);
    }

    private static void annoyedFromZero() {
        SpringOaths x = spring(9);
        Check.due("dry yet", x.annoyed(0, 3, 1), NONE);
        Check.due("an expert who is lost will do", x.annoyed(0, 3, 2), 0);
        x.water(3, 1);
        Check.due("in one", x.annoyed(0, 3, 1), 0);
        SpringOaths y = new SpringOaths();
        y.person(DOUBTER, 0, 50, 3);
        y.water(3, 9);
        Check.due("who isn't lost", y.annoyed(0, 3, 1), 1);
        y.water(3, 10);
        Check.due("wet without", y.annoyed(0, 3, 1), 0);
    }

    private static void annoyedByNinetyNine() {
        SpringOaths x = new SpringOaths();
        x.person(SWORN, 4, 0, 3);
        x.person(SWORN, 0, 69, 3);
        x.water(3, 3);
        Check.due("99 alone disagrees", x.annoyed(0, 3, 1), 99);
        x.sure(1, 70);
        Check.due("with none", x.annoyed(0, 3, 1), NONE);
        Check.due("tried", x.of(0, 2), 0);
    }

    /** WET is 10, not 9. */
    private static void annoyedByTen() {
        SpringOaths x = new SpringOaths();
        x.person(SWORN, 4, 0, 3);
        x.water(3, 5);
        Check.due("9", x.annoyed(0, 3, 1), NONE);
        x.water(3, 6);
        Check.due("10", x.annoyed(0, 3, 1), 50);
    }

    private static void annoyedRanges() {
        SpringOaths x = new SpringOaths();
        x.person(SWORN, 9, 0, 31);
        Check.due("n 20", x.annoyed(0, 31, 20), 1);
        Check.due("n 0", x.annoyed(0, 31, 0), BAD);
        Check.due("n 21", x.annoyed(0, 31, 21), BAD);
        Check.due("cell 32", x.annoyed(0, 32, 1), BAD);
        Check.due("cell -1", x.annoyed(0, -1, 1), BAD);
        Check.due("one 1", x.annoyed(1, 31, 1), BAD);
        Check.due("one -1", x.annoyed(-1, 31, 1), BAD);
    }

    /** "Least, less than with all": one without whom it is as much isn't needed. */
    private static void neededLess() {
        SpringOaths x = new SpringOaths();
        Check.due("nobody there", x.needed(3, 1), NONE);
        x.person(SWORN, 1, 49, 3);
        Check.due("who wells nothing", x.needed(3, 1), NONE);
        x.sure(0, 50);
        Check.due("who wells one", x.needed(3, 1), 0);
        x.water(3, 99);
        Check.due("full without", x.needed(3, 1), NONE);
        x.water(3, 98);
        Check.due("98 without", x.needed(3, 1), 0);
        x.person(SWORN, 9, 50, 3);
        Check.due("each is full without the one, not the other", x.needed(3, 1), NONE);
        x.water(3, 90);
        Check.due("91 without the last", x.needed(3, 1), 1);
    }

    private static void neededOfSeveral() {
        SpringOaths x = new SpringOaths();
        for (int i = 0; i < 8; i++) {
            x.person(SWORN, 3, 60, 9);
        }
        Check.due("all alike", x.needed(9, 1), 0);
        x.mind(0, 0, 2);
        Check.due("all but the first", x.needed(9, 1), 1);
        x.mind(7, 0, 4);
        Check.due("the last", x.needed(9, 1), 7);
        x.mind(7, 0, 0);
        x.sure(7, 99);
        x.sure(7, 90);
        Check.due("who disagrees with all", x.needed(9, 1), 7);
        x.sure(7, 89);
        Check.due("who doesn't", x.needed(9, 1), 1);
    }

    private static void neededRanges() {
        SpringOaths x = spring(1);
        Check.due("n 1", x.needed(3, 1), 0);
        Check.due("n 20", x.needed(3, 20), 0);
        Check.due("n 0", x.needed(3, 0), BAD);
        Check.due("n 21", x.needed(3, 21), BAD);
        Check.due("cell 0", x.needed(0, 1), NONE);
        Check.due("cell 31", x.needed(31, 1), NONE);
        Check.due("cell 32", x.needed(32, 1), BAD);
        Check.due("cell -1", x.needed(-1, 1), BAD);
    }

    /** Who was left out, as it was tried, is there again: now, by a TEXT and by what is kept. */
    private static void nobodyStaysLeftOut() {
        SpringOaths x = new SpringOaths();
        x.person(SWORN, 9, 99, 3);
        x.keep();
        Check.due("needed", x.needed(3, 1), 0);
        Check.due("it wells", x.of(0, 4), 9);
        Check.due("level", x.level(3, 1), 9);
        Check.due("needed", x.needed(3, 1), 0);
        Check.due("by a text", Check.moor(x, "sworn at 3 sense 8;"), 1);
        Check.due("it wells", x.of(0, 4), 8);
        Check.due("level", x.level(3, 1), 8);
        Check.due("by no set", x.fewest(3, 1), NONE);
        Check.due("needed", x.needed(3, 1), 0);
        Check.due("again", x.again(), 1);
        Check.due("it wells", x.of(0, 4), 9);
        x.years(1);
        Check.due("water", x.cell(3, 0), 9);
    }

    /** WET without anybody: the set of nobody, 0. */
    private static void fewestNobody() {
        SpringOaths x = new SpringOaths();
        Check.due("nobody, dry", x.fewest(3, 1), NONE);
        x.water(3, 9);
        Check.due("nobody, 9", x.fewest(3, 20), NONE);
        x.water(3, 10);
        Check.due("nobody, 10", x.fewest(3, 1), 0);
        x.person(SWORN, 9, 99, 3);
        Check.due("no one is asked for", x.fewest(3, 1), 0);
        x.water(3, 0);
        Check.due("9 by one", x.fewest(3, 1), NONE);
        x.water(3, 1);
        Check.due("10 by one", x.fewest(3, 1), 1);
    }

    /** "Of several the least": of those sets of as few. */
    private static void fewestOfSeveral() {
        SpringOaths x = new SpringOaths();
        for (int i = 0; i < 8; i++) {
            x.person(SWORN, i < 3 ? 4 : 5, 60, 3);
        }
        Check.due("two of 5", x.fewest(3, 1), 8 + 16);
        x.mind(7, 1, 5);
        Check.due("one of 10, though its number is more", x.fewest(3, 1), 128);
        x.mind(6, 1, 5);
        Check.due("the less of two", x.fewest(3, 1), 64);
        x.mind(6, 0, 1);
        x.mind(7, 0, 1);
        x.mind(3, 0, 4);
        x.mind(4, 0, 4);
        x.mind(5, 0, 4);
        Check.due("three of 4", x.fewest(3, 1), 7);
    }

    private static void fewestAll() {
        SpringOaths x = new SpringOaths();
        x.water(31, 2);
        for (int i = 0; i < 8; i++) {
            Check.due("not by " + i, x.fewest(31, 1), NONE);
            x.person(SWORN, 1, 50, 31);
        }
        Check.due("by all eight", x.fewest(31, 1), 255);
        x.water(31, 1);
        Check.due("by none", x.fewest(31, 1), NONE);
        x.water(31, 3);
        Check.due("by the first seven", x.fewest(31, 1), 127);
    }

    /** Those left out DISAGREE with nobody. */
    private static void fewestWhoDisagree() {
        SpringOaths x = new SpringOaths();
        x.set(1, 9);
        x.water(3, 1);
        x.person(SWORN, 0, 99, 3);
        Check.due("alone", x.fewest(3, 1), NONE);
        x.person(SWORN, 0, 50, 3);
        x.person(SWORN, 0, 20, 3);
        Check.due("the first two", x.fewest(3, 1), 3);
        x.sure(1, 70);
        Check.due("the first and the last", x.fewest(3, 1), 5);
        x.set(1, 4);
        Check.due("not by one pair, nor by all", x.fewest(3, 1), NONE);
        x.water(3, 2);
        Check.due("by two pairs", x.fewest(3, 1), 7);
    }

    private static void fewestRanges() {
        SpringOaths x = spring(1);
        Check.due("n 9", x.fewest(3, 9), NONE);
        Check.due("n 10", x.fewest(3, 10), 1);
        Check.due("n 20", x.fewest(3, 20), 1);
        Check.due("n 0", x.fewest(3, 0), BAD);
        Check.due("n 21", x.fewest(3, 21), BAD);
        Check.due("cell 0", x.fewest(0, 20), NONE);
        Check.due("cell 31", x.fewest(31, 20), NONE);
        Check.due("cell 32", x.fewest(32, 1), BAD);
        Check.due("cell -1", x.fewest(-1, 1), BAD);
    }

    private static void fits(SpringOaths x, int many, int least) {
        Check.due("how many fit", x.fits(0, 3, 0, 0), many);
        Check.due("the least that fits", x.fits(0, 3, 0, 1), least);
    }

    private static SpringOaths sheet(int sort, int... told) {
        SpringOaths x = new SpringOaths();
        x.person(SWORN, 6, 70, 3);
        x.sheet(0, sort, told.length);
        for (int i = 0; i < told.length; i++) {
            x.put(0, i, told[i]);
        }
        return x;
    }

    /** "-1: any"; a SHEET without numbers asks nothing. */
    private static void fitsAny() {
        for (int sort = 0; sort < 4; sort++) {
            fits(sheet(sort), 100, 0);
            fits(sheet(sort, -1), 100, 0);
            fits(sheet(sort, -1, -1, -1), 100, 0);
            fits(sheet(sort, -2), 0, NONE);
            fits(sheet(sort, -1, -2), 0, NONE);
            fits(sheet(sort, 100), 0, NONE);
        }
    }

    /** From 50 on it wells 6: the 50 of 50 to 99; 47 to 49 a year later; 57 is 60, then 50 in a WET one. */
    private static void fitsHowMany() {
        for (int sort = 0; sort < 4; sort++) {
            fits(sheet(sort, 6), 50, 50);
            fits(sheet(sort, 0), 50, 0);
            fits(sheet(sort, 5), 0, NONE);
            fits(sheet(sort, 7), 0, NONE);
            fits(sheet(sort, 0, 6), 3, 47);
            fits(sheet(sort, 0, 0), 47, 0);
            fits(sheet(sort, 6, 12), 50, 50);
            fits(sheet(sort, 6, 12, 18), 43, 57);
            fits(sheet(sort, 6, 12, 12), 7, 50);
            fits(sheet(sort, 6, 12, 6), 0, NONE);
        }
    }

    /** What is narrowed to a byte or a short may tell -1. */
    private static void fitsBySorts() {
        fits(sheet(0, 255), 100, 0);
        fits(sheet(1, 255), 0, NONE);
        fits(sheet(1, 65535), 100, 0);
        fits(sheet(2, 65535), 0, NONE);
        fits(sheet(3, 65535), 0, NONE);
        fits(sheet(0, 256 + 6), 50, 50);
        fits(sheet(1, 256 + 6), 0, NONE);
        fits(sheet(1, 65536 + 6), 50, 50);
        fits(sheet(2, 65536 + 6), 0, NONE);
        fits(sheet(3, Integer.MAX_VALUE), 0, NONE);
        fits(sheet(3, Integer.MIN_VALUE), 0, NONE);
        fits(sheet(2, Integer.MIN_VALUE), 0, NONE);
    }

    /** A full SHEET: the last of forty counts. */
    private static void fitsForty() {
        int[] told = new int[40];
        for (int i = 0; i < 40; i++) {
            told[i] = -1;
        }
        fits(sheet(0, told), 100, 0);
        SpringOaths x = sheet(0, told);
        x.mind(0, DOUBTER, 0);
        x.sure(0, 1);
        int last = x.level(3, 40);
        x.put(0, 39, last);
        Check.holds("some, but not all", x.fits(0, 3, 0, 0) > 0 && x.fits(0, 3, 0, 0) < 100);
        Check.due("one that is lost wells none", x.fits(0, 3, 0, 1), 1);
        x.put(0, 39, 0);
        Check.due("the lost one", x.fits(0, 3, 0, 0), 1);
        Check.due("the lost one", x.fits(0, 3, 0, 1), 0);
    }

    private static void fitsRefuses() {
        SpringOaths x = sheet(0, 0);
        for (int sheet = 0; sheet < 4; sheet++) {
            for (int what = 0; what < 2; what++) {
                Check.due("sheet " + sheet, x.fits(sheet, 31, 0, what), sheet > 0 ? -11 : what == 0 ? 100 : 0);
                Check.due("cell 32", x.fits(sheet, 32, 0, what), BAD);
                Check.due("cell -1", x.fits(sheet, -1, 0, what), BAD);
                Check.due("one 1", x.fits(sheet, 0, 1, what), BAD);
                Check.due("one -1", x.fits(sheet, 0, -1, what), BAD);
            }
            Check.due("what 2", x.fits(sheet, 0, 0, 2), BAD);
            Check.due("what -1", x.fits(sheet, 0, 0, -1), BAD);
        }
        Check.due("sheet 4", x.fits(4, 0, 0, 0), BAD);
        Check.due("sheet -1", x.fits(-1, 0, 0, 0), BAD);
        Check.due("tried", x.of(0, 2), 70);
    }
}
