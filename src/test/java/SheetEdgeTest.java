/** The edges of promises 39 to 44: SHEETS and SHELVES. */
public final class SheetEdgeTest {
    private static final int BAD = SpringOaths.BAD;
    private static final int MIN = Integer.MIN_VALUE;
    private static final int MAX = Integer.MAX_VALUE;

    public static void main(String[] args) {
        sizes();
        sorts();
        allZero();
        missing();
        placesOfPut();
        narrowed();
        placesOfItem();
        asLowAsRefusals();
        takenForAnotherSort();
        mindsHeld();
        mindsByOnesAndEights();
        mindsFromTheEnd();
        mindsOfNobody();
        mindsInOrder();
        shelvesAtFirst();
        shelfRanges();
        shelfHoldsOne();
        shelfHoldsARow();
        shelfOfAMissingOne();
        shelfOfNothing();
        takenKinds();
        takenRows();
        takenRanges();
        goneAndBack();
        Check.end("SheetEdgeTest");
    }

    /** "40 at most; n above 40: BAD; a size below 0: -14". */
    private static void sizes() {
        SpringOaths x = new SpringOaths();
        for (int sort = 0; sort < 4; sort++) {
            Check.due("n 0", x.sheet(sort, sort, 0), 1);
            Check.due("no first", x.put(sort, 0, 1), -12);
            Check.due("n 1", x.sheet(sort, sort, 1), 1);
            Check.due("the first", x.put(sort, 0, 1), 1);
            Check.due("no second", x.put(sort, 1, 1), -12);
            Check.due("n 40", x.sheet(sort, sort, 40), 1);
            Check.due("the last", x.put(sort, 39, 9), 1);
            Check.due("none behind it", x.put(sort, 40, 1), -12);
            Check.due("n 41", x.sheet(sort, sort, 41), BAD);
            Check.due("n MAX", x.sheet(sort, sort, MAX), BAD);
            Check.due("n -1", x.sheet(sort, sort, -1), -14);
            Check.due("n MIN", x.sheet(sort, sort, MIN), -14);
            Check.due("the last stays", x.item(sort, sort, 39), 9);
        }
    }

    private static void sorts() {
        SpringOaths x = new SpringOaths();
        Check.due("sort -2", x.sheet(0, -2, 1), BAD);
        Check.due("sort 4", x.sheet(0, 4, 1), BAD);
        Check.due("sort 4, n -1", x.sheet(0, 4, -1), BAD);
        Check.due("sheet 4", x.sheet(4, 0, 1), BAD);
        Check.due("sheet -1", x.sheet(-1, 0, 1), BAD);
        Check.due("sheet 4, n -1", x.sheet(4, 0, -1), BAD);
        Check.due("sheet 4, missing", x.sheet(4, -1, 0), BAD);
        Check.due("still missing", x.item(0, 0, 0), -11);
    }

    private static void allZero() {
        SpringOaths x = new SpringOaths();
        for (int sort = 0; sort < 4; sort++) {
            x.sheet(0, sort, 40);
            for (int i = 0; i < 40; i++) {
                Check.due("item " + i, x.item(0, sort, i), 0);
                x.put(0, i, -1);
            }
        }
        x.sheet(0, -1, 0);
        x.sheet(0, 3, 40);
        Check.due("after missing", x.item(0, 3, 39), 0);
        x.put(0, 39, 7);
        x.sheet(0, 3, 39);
        x.sheet(0, 3, 40);
        Check.due("after less", x.item(0, 3, 39), 0);
    }

    /** "Or missing (sort -1; n counts nothing then)". */
    private static void missing() {
        for (int n : new int[] {0, 1, 40, 41, -1, MIN, MAX}) {
            SpringOaths x = new SpringOaths();
            x.sheet(2, 1, 3);
            Check.due("missing, n " + n, x.sheet(2, -1, n), 1);
            Check.due("item", x.item(2, 1, 0), -11);
            Check.due("put", x.put(2, 0, 0), -11);
            Check.due("missing again", x.sheet(2, -1, n), 1);
        }
    }

    private static void placesOfPut() {
        SpringOaths x = new SpringOaths();
        x.sheet(1, 2, 3);
        int[] due = {-12, 1, 1, 1, -12};
        for (int i = -1; i < 4; i++) {
            Check.due("put(1, " + i + ", 5)", x.put(1, i, 5), due[i + 1]);
        }
        Check.due("i MIN", x.put(1, MIN, 5), -12);
        Check.due("i MAX", x.put(1, MAX, 5), -12);
        Check.due("missing", x.put(0, 0, 5), -11);
        Check.due("missing, and outside", x.put(0, -1, 5), -11);
        Check.due("sheet 4", x.put(4, 0, 5), BAD);
        Check.due("sheet -1", x.put(-1, 0, 5), BAD);
        Check.due("sheet 4, and outside", x.put(4, -1, 5), BAD);
    }

    private static void holds(int sort, int v, int due) {
        SpringOaths x = new SpringOaths();
        x.sheet(3, sort, 1);
        Check.due("put", x.put(3, 0, v), 1);
        Check.due(v + " as sort " + sort, x.item(3, sort, 0), due);
    }

    /** "Narrowed to its sort": the last number that it holds, and the first that it doesn't. */
    private static void narrowed() {
        holds(0, 127, 127);
        holds(0, 128, -128);
        holds(0, -128, -128);
        holds(0, -129, 127);
        holds(0, 255, -1);
        holds(0, 256, 0);
        holds(0, MAX, -1);
        holds(0, MIN, 0);
        holds(1, 32767, 32767);
        holds(1, 32768, -32768);
        holds(1, -32768, -32768);
        holds(1, -32769, 32767);
        holds(1, 65535, -1);
        holds(1, 65536, 0);
        holds(1, MAX, -1);
        holds(1, MIN, 0);
        for (int sort = 2; sort < 4; sort++) {
            holds(sort, MAX, MAX);
            holds(sort, MIN, MIN);
            holds(sort, 65536, 65536);
            holds(sort, -1, -1);
        }
    }

    private static void placesOfItem() {
        SpringOaths x = new SpringOaths();
        x.sheet(1, 2, 3);
        x.put(1, 0, 10);
        x.put(1, 1, 11);
        x.put(1, 2, 12);
        int[] due = {-12, 10, 11, 12, -12};
        for (int i = -1; i < 4; i++) {
            Check.due("item(1, 2, " + i + ")", x.item(1, 2, i), due[i + 1]);
        }
        Check.due("i MIN", x.item(1, 2, MIN), -12);
        Check.due("i MAX", x.item(1, 2, MAX), -12);
    }

    /** "An item may be as low as these, too." */
    private static void asLowAsRefusals() {
        for (int v = -15; v < 0; v++) {
            for (int sort = 0; sort < 4; sort++) {
                holds(sort, v, v);
            }
        }
    }

    private static void takenForAnotherSort() {
        SpringOaths x = new SpringOaths();
        for (int sheet = 0; sheet < 3; sheet++) {
            x.sheet(sheet, sheet, 1);
            for (int sort = 0; sort < 4; sort++) {
                Check.due("sort " + sheet + " as " + sort, x.item(sheet, sort, 0), sort == sheet ? 0 : -13);
                Check.due("and outside", x.item(sheet, sort, 1), sort == sheet ? -12 : -13);
            }
        }
        for (int sort = 0; sort < 4; sort++) {
            Check.due("missing", x.item(3, sort, 0), -11);
            Check.due("missing, and outside", x.item(3, sort, 99), -11);
        }
        Check.due("sort 4, missing", x.item(3, 4, 0), BAD);
        Check.due("sort -1, missing", x.item(3, -1, 0), BAD);
        Check.due("sheet 4", x.item(4, 0, 0), BAD);
        Check.due("sheet -1", x.item(-1, 0, 0), BAD);
    }

    private static SpringOaths eightWithBytes(int... bytes) {
        SpringOaths x = new SpringOaths();
        for (int i = 0; i < 8; i++) {
            x.person(0, 0, 50 + i, i);
        }
        x.sheet(0, 0, bytes.length);
        for (int i = 0; i < bytes.length; i++) {
            x.put(0, i, bytes[i]);
        }
        return x;
    }

    /** "Held to 0 to 99". */
    private static void mindsHeld() {
        int[] bytes = {-128, -1, 0, 1, 98, 99, 100, 127};
        int[] due = {0, 0, 0, 1, 98, 99, 99, 99};
        SpringOaths x = eightWithBytes(bytes);
        Check.due("all eight", x.minds(0, 0, 0, 8), 8);
        for (int i = 0; i < 8; i++) {
            Check.due("sure of " + i, x.of(i, 2), due[i]);
        }
        x.put(0, 0, 200);
        Check.due("200 is below 0 as a byte", x.minds(0, 0, 7, 1), 1);
        Check.due("sure of 7", x.of(7, 2), 0);
    }

    /** "N numbers (0 to 8), from i on, become SURE of PEOPLE from one on", and of no others. */
    private static void mindsByOnesAndEights() {
        for (int n = 0; n <= 8; n++) {
            for (int one = 0; one <= 7; one++) {
                SpringOaths x = eightWithBytes(1, 2, 3, 4, 5, 6, 7, 8, 9);
                boolean taken = one + n <= 8;
                Check.due(n + " from " + one, x.minds(0, 1, one, n), taken ? n : BAD);
                for (int i = 0; i < 8; i++) {
                    boolean minded = taken && i >= one && i < one + n;
                    Check.due("sure of " + i, x.of(i, 2), minded ? 2 + i - one : 50 + i);
                }
            }
        }
        SpringOaths x = eightWithBytes(1, 2, 3, 4, 5, 6, 7, 8, 9);
        Check.due("n 9", x.minds(0, 0, 0, 9), BAD);
        Check.due("n -1", x.minds(0, 0, 0, -1), BAD);
        Check.due("n MAX", x.minds(0, 0, 7, MAX), BAD);
        Check.due("n MIN", x.minds(0, 0, 7, MIN), BAD);
    }

    /** "I is not 0 to how many items there are (also for n 0), or there are not so many". */
    private static void mindsFromTheEnd() {
        SpringOaths x = eightWithBytes(1, 2, 3);
        int[][] due = {{-12, -12, -12, -12}, {0, 1, 2, 3}, {0, 1, 2, -12}, {0, 1, -12, -12}, {0, -12, -12, -12},
            {-12, -12, -12, -12}};
        for (int i = -1; i <= 4; i++) {
            for (int n = 0; n < 4; n++) {
                Check.due(n + " numbers from " + i, x.minds(0, i, 0, n), due[i + 1][n]);
            }
            Check.due("four numbers from " + i, x.minds(0, i, 0, 4), -12);
        }
        Check.due("i MAX", x.minds(0, MAX, 0, 8), -12);
        Check.due("i MIN", x.minds(0, MIN, 0, 0), -12);
        x.sheet(1, 0, 0);
        Check.due("none of none", x.minds(1, 0, 0, 0), 0);
        Check.due("one of none", x.minds(1, 0, 0, 1), -12);
        Check.due("behind none", x.minds(1, 1, 0, 0), -12);
        x.sheet(1, 0, 40);
        Check.due("the last eight of forty", x.minds(1, 32, 0, 8), 8);
        Check.due("one place on", x.minds(1, 33, 0, 8), -12);
        Check.due("none behind forty", x.minds(1, 40, 7, 0), 0);
        Check.due("none behind that", x.minds(1, 41, 7, 0), -12);
    }

    /** No such one, also for n 0. */
    private static void mindsOfNobody() {
        SpringOaths x = new SpringOaths();
        x.sheet(0, 0, 3);
        Check.due("nobody", x.minds(0, 0, 0, 0), BAD);
        x.person(0, 0, 50, 0);
        Check.due("one", x.minds(0, 0, 0, 1), 1);
        Check.due("no second", x.minds(0, 0, 1, 0), BAD);
        Check.due("none before the first", x.minds(0, 0, -1, 0), BAD);
        Check.due("beyond the last", x.minds(0, 0, 0, 2), BAD);
    }

    private static void mindsInOrder() {
        SpringOaths x = new SpringOaths();
        x.person(0, 0, 50, 0);
        x.sheet(1, 1, 3);
        Check.due("BAD before -11", x.minds(0, 0, 0, 2), BAD);
        Check.due("BAD before -13", x.minds(1, 0, 1, 0), BAD);
        Check.due("-11 before -12", x.minds(0, 99, 0, 1), -11);
        Check.due("-13 before -12", x.minds(1, 99, 0, 1), -13);
        for (int sort = 1; sort < 4; sort++) {
            x.sheet(1, sort, 3);
            Check.due("sort " + sort, x.minds(1, 0, 0, 1), -13);
            Check.due("sort " + sort + ", n 0", x.minds(1, 0, 0, 0), -13);
        }
        Check.due("sheet 4", x.minds(4, 0, 0, 0), BAD);
        Check.due("sheet -1", x.minds(-1, 0, 0, 0), BAD);
        Check.due("sure stays", x.of(0, 2), 50);
    }

    /** "Nothing (at first)", also when somebody has come since. */
    private static void shelvesAtFirst() {
        SpringOaths x = new SpringOaths();
        x.person(0, 0, 0, 0);
        x.sheet(0, 0, 1);
        for (int shelf = 0; shelf < 4; shelf++) {
            Check.due("taken(" + shelf + ", 0)", x.taken(shelf, 0), -11);
            Check.due("taken(" + shelf + ", 10)", x.taken(shelf, 10), -11);
            Check.due("act(" + shelf + ", 0, 5)", x.act(shelf, 0, 5), 0);
        }
    }

    private static void shelfRanges() {
        SpringOaths x = new SpringOaths();
        x.person(0, 0, 0, 0);
        for (int shelf = -1; shelf <= 4; shelf++) {
            int due = shelf < 0 || shelf > 3 ? BAD : 1;
            for (int what = -1; what <= 3; what++) {
                Check.due("shelf(" + shelf + ", " + what + ", 0)", x.shelf(shelf, what, 0),
                    what < 0 || what > 2 ? BAD : due);
            }
        }
        Check.due("no such one", x.shelf(0, 0, 1), BAD);
        Check.due("no such one", x.shelf(0, 0, -1), BAD);
        Check.due("no such sheet", x.shelf(0, 1, 4), BAD);
        Check.due("no such sheet", x.shelf(0, 1, -1), BAD);
    }

    private static void shelfHoldsOne() {
        SpringOaths x = new SpringOaths();
        Check.due("nobody", x.shelf(0, 0, 0), BAD);
        for (int i = 0; i < 8; i++) {
            x.person(0, 0, 0, 0);
            Check.due("the last", x.shelf(i % 4, 0, i), 1);
            Check.due("its number", x.taken(i % 4, 0), i);
            Check.due("behind the last", x.shelf(i % 4, 0, i + 1), BAD);
            Check.due("it stays", x.taken(i % 4, 0), i);
        }
        x.shelf(0, 0, 7);
        x.shelf(1, 0, 7);
        Check.due("one on two shelves", x.taken(0, 0) + x.taken(1, 0), 14);
    }

    /** A SHELF holds the row that it was given, whatever the SHEET becomes. */
    private static void shelfHoldsARow() {
        SpringOaths x = new SpringOaths();
        x.sheet(3, 3, 40);
        x.shelf(3, 1, 3);
        Check.due("forty longs", x.taken(3, 13), 40);
        x.sheet(3, 0, 2);
        Check.due("forty longs", x.taken(3, 13), 40);
        Check.due("no bytes", x.taken(3, 10), -13);
        x.shelf(2, 1, 3);
        Check.due("two bytes", x.taken(2, 10), 2);
        x.sheet(3, -1, 0);
        Check.due("two bytes", x.taken(2, 10), 2);
        x.sheet(3, 0, 0);
        x.shelf(2, 1, 3);
        Check.due("a row of none", x.taken(2, 10), 0);
    }

    /** "Nothing, if missing". */
    private static void shelfOfAMissingOne() {
        SpringOaths x = new SpringOaths();
        x.person(0, 0, 0, 0);
        x.shelf(0, 0, 0);
        Check.due("a missing one", x.shelf(0, 1, 0), 1);
        Check.due("is nothing", x.taken(0, 0), -11);
        Check.due("is nothing", x.taken(0, 10), -11);
        x.sheet(0, 0, 5);
        Check.due("stays nothing", x.taken(0, 10), -11);
    }

    private static void shelfOfNothing() {
        SpringOaths x = new SpringOaths();
        x.person(0, 0, 0, 0);
        for (int n : new int[] {0, -1, 99, MIN, MAX}) {
            x.shelf(1, 0, 0);
            Check.due("nothing, n " + n, x.shelf(1, 2, n), 1);
            Check.due("is nothing", x.taken(1, 0), -11);
            Check.due("doesn't act", x.act(1, 0, 5), 0);
        }
    }

    private static void takenKinds() {
        String[] as = {"0", "01", "02", "013", "024", "05"};
        SpringOaths x = new SpringOaths();
        for (int kind = 0; kind < 6; kind++) {
            x.person(kind, 0, 0, 0);
            x.shelf(0, 0, kind);
            for (int other = 0; other < 6; other++) {
                boolean is = as[kind].indexOf('0' + other) >= 0;
                Check.due("kind " + kind + " as " + other, x.taken(0, other), is ? kind : -13);
            }
            for (int row = 10; row < 14; row++) {
                Check.due("kind " + kind + " as " + row, x.taken(0, row), -13);
            }
        }
        x.mind(5, 4, 0);
        Check.due("the kind that it is now", x.taken(0, 4), 5);
        Check.due("not the kind that it was", x.taken(0, 5), -13);
    }

    private static void takenRows() {
        SpringOaths x = new SpringOaths();
        for (int sort = 0; sort < 4; sort++) {
            x.sheet(0, sort, sort == 0 ? 0 : 40);
            x.shelf(0, 1, 0);
            for (int as = 0; as < 6; as++) {
                Check.due("a row as " + as, x.taken(0, as), -13);
            }
            for (int as = 10; as < 14; as++) {
                Check.due("a row as " + as, x.taken(0, as), as - 10 != sort ? -13 : sort == 0 ? 0 : 40);
            }
        }
    }

    private static void takenRanges() {
        SpringOaths x = new SpringOaths();
        x.person(0, 0, 0, 0);
        x.sheet(0, 0, 1);
        x.shelf(0, 0, 0);
        x.shelf(1, 1, 0);
        for (int shelf = 0; shelf < 3; shelf++) {
            for (int as : new int[] {-1, 6, 7, 8, 9, 14, MIN, MAX}) {
                Check.due("as " + as, x.taken(shelf, as), BAD);
            }
        }
        for (int as : new int[] {0, 5, 10, 13}) {
            Check.due("nothing as " + as, x.taken(3, as), -11);
            Check.due("shelf 4 as " + as, x.taken(4, as), BAD);
            Check.due("shelf -1 as " + as, x.taken(-1, as), BAD);
        }
    }

    /** "By its number; nothing, if there is no such one at the time". */
    private static void goneAndBack() {
        SpringOaths x = new SpringOaths();
        x.person(0, 0, 0, 0);
        x.keep();
        x.person(3, 4, 0, 0);
        x.shelf(0, 0, 1);
        Check.due("there", x.taken(0, 3), 1);
        x.again();
        Check.due("gone", x.taken(0, 3), -11);
        Check.due("gone, as a row", x.taken(0, 10), -11);
        Check.due("doesn't act", x.act(0, 0, 5), 0);
        Check.due("no trace", x.many(6), 0);
        x.person(2, 6, 0, 0);
        Check.due("another by its number", x.taken(0, 2), 1);
        Check.due("acts", x.act(0, 0, 5), 5 + 3 + 1);
        x.moor();
        Check.due("gone", x.taken(0, 0), -11);
    }
}
