/** Promises 39 to 44: SHEETS and SHELVES. */
public final class SheetTest {
    private static final int BAD = SpringOaths.BAD;

    public static void main(String[] args) {
        minds();
        mindsRefuses();
        sheet();
        put();
        item();
        shelf();
        takenPerson();
        takenRow();
        Check.end("SheetTest");
    }

    private static void minds() {
        SpringOaths x = new SpringOaths();
        for (int i = 0; i < 8; i++) {
            x.person(0, 0, 50, i);
        }
        x.sheet(2, 0, 9);
        int[] bytes = {0, 1, 99, 100, 127, -1, -128, 42, 43};
        int[] held = {0, 1, 99, 99, 99, 0, 0, 42, 43};
        for (int i = 0; i < 9; i++) {
            x.put(2, i, bytes[i]);
        }
        Check.due("all eight", x.minds(2, 1, 0, 8), 8);
        for (int i = 0; i < 8; i++) {
            Check.due("of(" + i + ", 2)", x.of(i, 2), held[i + 1]);
        }
        Check.due("one", x.minds(2, 7, 6, 1), 1);
        Check.due("of(6, 2)", x.of(6, 2), 42);
        Check.due("of(5, 2)", x.of(5, 2), 0);
        Check.due("of(7, 2)", x.of(7, 2), 43);
        Check.due("none", x.minds(2, 9, 7, 0), 0);
    }

    private static void mindsRefuses() {
        SpringOaths x = new SpringOaths();
        Check.due("no one, n 0", x.minds(0, 0, 0, 0), BAD);
        x.person(0, 0, 50, 0);
        x.person(0, 0, 51, 0);
        x.sheet(0, 0, 2);
        x.sheet(1, 1, 2);
        Check.due("sheet 4", x.minds(4, 0, 0, 1), BAD);
        Check.due("sheet -1", x.minds(-1, 0, 0, 1), BAD);
        Check.due("one 2", x.minds(3, 0, 2, 0), BAD);
        Check.due("one -1", x.minds(3, 0, -1, 1), BAD);
        Check.due("n 9", x.minds(3, 0, 0, 9), BAD);
        Check.due("n -1", x.minds(3, 0, 0, -1), BAD);
        Check.due("n max", x.minds(3, 0, 1, Integer.MAX_VALUE), BAD);
        Check.due("beyond the last one", x.minds(3, 0, 1, 2), BAD);
        Check.due("missing", x.minds(3, 9, 1, 1), -11);
        Check.due("another sort", x.minds(1, 9, 1, 1), -13);
        Check.due("i -1", x.minds(0, -1, 0, 0), -12);
        Check.due("i 3", x.minds(0, 3, 0, 0), -12);
        Check.due("i max", x.minds(0, Integer.MAX_VALUE, 0, 2), -12);
        Check.due("i min", x.minds(0, Integer.MIN_VALUE, 0, 2), -12);
        Check.due("not so many", x.minds(0, 1, 0, 2), -12);
        Check.due("i 2, n 0", x.minds(0, 2, 0, 0), 0);
        Check.due("sure stays", x.of(0, 2), 50);
        Check.due("sure stays", x.of(1, 2), 51);
    }

    private static void sheet() {
        SpringOaths x = new SpringOaths();
        Check.due("sheet 4", x.sheet(4, 0, 1), BAD);
        Check.due("sheet -1", x.sheet(-1, 0, 1), BAD);
        Check.due("sort 4", x.sheet(0, 4, -1), BAD);
        Check.due("sort -2", x.sheet(0, -2, 1), BAD);
        Check.due("n 41", x.sheet(0, 0, 41), BAD);
        Check.due("n -1", x.sheet(0, 0, -1), -14);
        Check.due("n min", x.sheet(0, 0, Integer.MIN_VALUE), -14);
        Check.due("still missing", x.item(0, 0, 0), -11);
        Check.due("n 40", x.sheet(0, 2, 40), 1);
        Check.due("the last", x.put(0, 39, 7), 1);
        Check.due("refused", x.sheet(0, 2, 41), BAD);
        Check.due("it stays", x.item(0, 2, 39), 7);
        Check.due("anew", x.sheet(0, 2, 40), 1);
        Check.due("all 0", x.item(0, 2, 39), 0);
        x.put(0, 0, 8);
        x.sheet(0, 2, 40);
        Check.due("all 0, the first too", x.item(0, 2, 0), 0);
        Check.due("n 0", x.sheet(0, 2, 0), 1);
        Check.due("none in it", x.item(0, 2, 0), -12);
        Check.due("missing, n counts nothing", x.sheet(0, -1, 99), 1);
        Check.due("missing", x.item(0, 2, 0), -11);
        Check.due("missing, n counts nothing", x.sheet(0, -1, -99), 1);
    }

    private static void put() {
        int[] values = {0, 127, 128, 200, 255, 256, -1, -129, 32767, 32768, 65535, 65536,
            Integer.MAX_VALUE, Integer.MIN_VALUE};
        SpringOaths x = new SpringOaths();
        for (int sort = 0; sort < 4; sort++) {
            x.sheet(3, sort, 2);
            for (int v : values) {
                Check.due("put", x.put(3, 1, v), 1);
                int want = sort == 0 ? (byte) v : sort == 1 ? (short) v : v;
                Check.due("item of sort " + sort + " by " + v, x.item(3, sort, 1), want);
                Check.due("another item", x.item(3, sort, 0), 0);
            }
        }
        Check.due("sheet 4", x.put(4, 0, 1), BAD);
        Check.due("sheet -1", x.put(-1, 0, 1), BAD);
        Check.due("missing", x.put(0, 9, 1), -11);
        Check.due("i 2", x.put(3, 2, 1), -12);
        Check.due("i -1", x.put(3, -1, 1), -12);
        Check.due("i max", x.put(3, Integer.MAX_VALUE, 1), -12);
    }

    private static void item() {
        SpringOaths x = new SpringOaths();
        x.sheet(1, 3, 2);
        Check.due("sheet 4", x.item(4, 0, 0), BAD);
        Check.due("sheet -1", x.item(-1, 0, 0), BAD);
        Check.due("sort 4, missing", x.item(0, 4, 0), BAD);
        Check.due("sort -1, missing", x.item(0, -1, 0), BAD);
        Check.due("missing", x.item(0, 0, 9), -11);
        Check.due("another sort", x.item(1, 2, 9), -13);
        Check.due("i 2", x.item(1, 3, 2), -12);
        Check.due("i -1", x.item(1, 3, -1), -12);
    }

    private static void shelf() {
        SpringOaths x = new SpringOaths();
        x.person(0, 0, 0, 0);
        for (int shelf = 0; shelf < 4; shelf++) {
            Check.due("nothing at first", x.taken(shelf, 0), -11);
        }
        Check.due("shelf 4", x.shelf(4, 0, 0), BAD);
        Check.due("shelf -1", x.shelf(-1, 2, 0), BAD);
        Check.due("what 3", x.shelf(0, 3, 0), BAD);
        Check.due("what -1", x.shelf(0, -1, 0), BAD);
        Check.due("no such one", x.shelf(0, 0, 1), BAD);
        Check.due("no such one", x.shelf(0, 0, -1), BAD);
        Check.due("no such sheet", x.shelf(0, 1, 4), BAD);
        Check.due("no such sheet", x.shelf(0, 1, -1), BAD);
        Check.due("one", x.shelf(3, 0, 0), 1);
        Check.due("refused", x.shelf(3, 0, 1), BAD);
        Check.due("it stays", x.taken(3, 0), 0);
        Check.due("a missing sheet", x.shelf(3, 1, 2), 1);
        Check.due("is nothing", x.taken(3, 0), -11);
        x.shelf(3, 0, 0);
        Check.due("nothing, whatever n", x.shelf(3, 2, 99), 1);
        Check.due("is nothing", x.taken(3, 10), -11);
    }

    private static void takenPerson() {
        int[][] under = {
            {1, 0, 0, 0, 0, 0}, {1, 1, 0, 0, 0, 0}, {1, 0, 1, 0, 0, 0},
            {1, 1, 0, 1, 0, 0}, {1, 0, 1, 0, 1, 0}, {1, 0, 0, 0, 0, 1},
        };
        SpringOaths x = new SpringOaths();
        x.person(0, 0, 0, 0);
        x.person(0, 0, 0, 0);
        x.shelf(0, 0, 1);
        for (int kind = 0; kind < 6; kind++) {
            x.mind(1, kind, 0);
            for (int as = 0; as < 6; as++) {
                Check.due("kind " + kind + " as " + as, x.taken(0, as), under[kind][as] == 1 ? 1 : -13);
            }
            for (int as = 10; as < 14; as++) {
                Check.due("kind " + kind + " as a row", x.taken(0, as), -13);
            }
        }
        int[] wrong = {-1, 6, 9, 14, Integer.MIN_VALUE, Integer.MAX_VALUE};
        for (int as : wrong) {
            Check.due("as " + as, x.taken(0, as), BAD);
            Check.due("as " + as + " of nothing", x.taken(1, as), BAD);
        }
        Check.due("shelf 4", x.taken(4, 0), BAD);
        Check.due("shelf -1", x.taken(-1, 0), BAD);
        Check.due("one who is gone", Check.moor(x, "engineer at 3;"), 1);
        Check.due("is nothing", x.taken(0, 0), -11);
        x.person(4, 0, 0, 0);
        Check.due("another by that number", x.taken(0, 4), 1);
    }

    private static void takenRow() {
        SpringOaths x = new SpringOaths();
        for (int sort = 0; sort < 4; sort++) {
            x.sheet(sort, sort, 10 * sort);
            x.shelf(sort, 1, sort);
            for (int as = 0; as < 6; as++) {
                Check.due("a row as one", x.taken(sort, as), -13);
            }
            for (int as = 10; as < 14; as++) {
                Check.due("a row as " + as, x.taken(sort, as), as - 10 == sort ? 10 * sort : -13);
            }
        }
        x.sheet(3, 0, 5);
        Check.due("the shelf holds the row that it was given", x.taken(3, 13), 30);
        x.sheet(3, -1, 0);
        Check.due("also when the sheet is missing", x.taken(3, 13), 30);
    }
}
