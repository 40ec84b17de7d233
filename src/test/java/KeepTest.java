/** Promises 47 to 49: how many there are, and moors kept. */
public final class KeepTest {
    public static void main(String[] args) {
        many();
        keepAll();
        keptStays();
        notKept();
        eachSheetStays();
        Check.end("KeepTest");
    }

    private static void many() {
        SpringOaths x = new SpringOaths();
        x.person(0, 3, 0, 0);
        x.person(0, 3, 0, 0);
        x.person(0, 3, 9, 0);
        x.water(8, 10);
        x.water(9, 9);
        x.height(31, 9);
        x.prove(0, 7);
        x.feed(0, 5);
        x.shelf(0, 0, 2);
        x.act(0, 3, 1);
        int[] want = {3, 1, 2, 31, 7, 5, 3};
        for (int what = 0; what < 7; what++) {
            Check.due("many(" + what + ")", x.many(what), want[what]);
        }
        Check.due("many(7)", x.many(7), SpringOaths.BAD);
        Check.due("many(-1)", x.many(-1), SpringOaths.BAD);
    }

    private static void keepAll() {
        SpringOaths x = new SpringOaths();
        x.person(3, 4, 55, 6);
        x.person(5, 0, 11, 9);
        x.set(0, 7);
        x.set(1, 6);
        x.set(2, 5);
        x.set(3, 4);
        x.height(2, 3);
        x.water(2, 71);
        x.seed(99);
        x.years(2);
        int water = x.state(1);
        int sure = x.state(3);
        Check.due("keep()", x.keep(), 1);
        Check.moor(x, "dowser at 1;height 7 is 0;bog 1;drink 1;");
        x.seed(3);
        x.year();
        Check.due("again()", x.again(), 2);
        Check.due("year", x.state(0), 2);
        Check.due("water", x.state(1), water);
        Check.due("sure", x.state(3), sure);
        Check.due("kind", x.of(0, 0), 3);
        Check.due("sense", x.of(0, 1), 4);
        Check.due("at", x.of(1, 3), 9);
        Check.due("height", x.cell(2, 1), 3);
        Check.due("lowest", x.lowest(1), 2);
        Check.due("lowest", x.lowest(6), SpringOaths.NONE);
        for (int law = 0; law < 4; law++) {
            Check.due("law " + law, x.lawOf(law), 7 - law);
        }
        Check.due("z", x.seed(0), 99);
    }

    private static void keptStays() {
        SpringOaths x = new SpringOaths();
        x.keep();
        x.person(0, 1, 2, 3);
        Check.due("again()", x.again(), 0);
        x.person(1, 1, 2, 3);
        x.person(1, 1, 2, 3);
        Check.due("again() once more", x.again(), 0);
        x.person(2, 1, 2, 3);
        x.keep();
        x.mind(0, 3, 3);
        Check.due("the latest", x.again(), 1);
        Check.due("kind", x.of(0, 0), 2);
    }

    private static void notKept() {
        SpringOaths x = new SpringOaths();
        x.person(0, 1, 2, 3);
        x.feed(0, 3);
        x.prove(0, 4);
        x.sheet(0, 2, 5);
        x.shelf(0, 0, 0);
        x.act(0, 0, 1);
        x.keep();
        x.feed(0, 3);
        x.prove(0, 6);
        x.sheet(0, 1, 7);
        x.shelf(0, 1, 0);
        x.shelf(1, 0, 0);
        x.act(1, 1, 1);
        x.again();
        Check.due("tape", x.many(5), 6);
        Check.due("rows", x.many(4), 6);
        Check.due("sheet", x.item(0, 1, 6), 0);
        Check.due("shelf", x.taken(0, 11), 7);
        Check.due("trace", x.many(6), 2);
        Check.due("trace", x.trace(0), 11);
    }

    /** again() gives back no SHEET and no SHELF: all four of each are as they are. */
    private static void eachSheetStays() {
        SpringOaths x = Moors.full();
        x.sheet(3, -1, 0);
        for (int i = 0; i < 3; i++) {
            x.put(i, 1, 20 + i);
            x.shelf(3 - i, 1, i);
        }
        x.shelf(0, 0, 2);
        Check.due("again()", x.again(), 8);
        for (int i = 0; i < 3; i++) {
            Check.due("item(" + i + ", " + i + ", 1)", x.item(i, i, 1), 20 + i);
        }
        Check.due("missing", x.item(3, 3, 0), -11);
        Check.due("taken(0, 2)", x.taken(0, 2), 2);
        Check.due("taken(1, 12)", x.taken(1, 12), 3);
        Check.due("taken(2, 11)", x.taken(2, 11), 8);
        Check.due("taken(3, 10)", x.taken(3, 10), 40);
    }
}
