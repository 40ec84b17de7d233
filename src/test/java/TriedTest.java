import java.util.function.Supplier;

/**
 * Promises 22 to 30, and 32: what is tried. Besides told moors, moors by numbers that follow from one another
 * are asked, and the answers are found again by the plainer calls.
 */
public final class TriedTest {
    private static final int BAD = SpringOaths.BAD;
    private static final int NONE = SpringOaths.NONE;

    private static int drawn = 7;

    public static void main(String[] args) {
        level();
        damp();
        inTheLastYear();
        loss();
        drowned();
        whereFor();
        kindFor();
        annoyed();
        needed();
        fewest();
        fits();
        refuses();
        for (int i = 0; i < 60; i++) {
            moorByNumbers();
        }
        Check.end("TriedTest");
    }

    private static void level() {
        SpringOaths x = new SpringOaths();
        x.person(3, 1, 99, 4);
        x.water(4, 7);
        Check.due("level(4, 0)", x.level(4, 0), 7);
        Check.due("level(4, 1)", x.level(4, 1), 11);
        Check.due("level(4, 60)", x.level(4, 60), 99);
        Check.due("nothing changes", x.cell(4, 0), 7);
        Check.due("nothing changes", x.state(0), 0);
        Check.due("level(4, 61)", x.level(4, 61), BAD);
        Check.due("level(4, -1)", x.level(4, -1), BAD);
        Check.due("level(32, 0)", x.level(32, 0), BAD);
        Check.due("level(-1, 0)", x.level(-1, 0), BAD);
    }

    private static void damp() {
        SpringOaths x = new SpringOaths();
        x.set(0, 1);
        x.person(3, 0, 0, 4);
        x.water(5, 10);
        x.water(6, 9);
        Check.due("damp(5)", x.damp(5), 0);
        Check.due("damp(6)", x.damp(6), NONE);
        Check.due("damp(4)", x.damp(4), 10);
        x.set(0, 0);
        x.set(2, 0);
        x.height(4, 1);
        x.height(5, 0);
        x.height(6, 9);
        // water that has run off later counts all the same
        Check.due("damp(5)", x.damp(5), 0);
        Check.due("damp(32)", x.damp(32), BAD);
        Check.due("damp(-1)", x.damp(-1), BAD);
        SpringOaths y = new SpringOaths();
        y.set(2, 50);
        y.person(2, 0, 1, 0);
        y.height(0, 9);
        y.water(1, 0);
        Check.due("one a year, damp(0)", y.damp(0), 10);
        Check.due("damp(1)", y.damp(1), NONE);
    }

    /** A spring of one a year at cell 0: what is above BOG 50 goes to cell 1, by one in each year from the 52nd on. */
    private static void inTheLastYear() {
        SpringOaths x = new SpringOaths();
        x.set(0, 1);
        x.set(2, 50);
        x.height(0, 9);
        x.person(3, 0, 0, 0);
        x.person(0, 0, 0, 1);
        x.water(0, 1);
        Check.due("level(1, 59)", x.level(1, 59), 9);
        Check.due("level(1, 60)", x.level(1, 60), 10);
        Check.due("damp in the last year", x.damp(1), 60);
        Check.due("drowned in the last year", x.drowned(), 60);
        x.water(0, 0);
        Check.due("damp a year later", x.damp(1), NONE);
        Check.due("drowned a year later", x.drowned(), NONE);
    }

    private static void loss() {
        SpringOaths x = new SpringOaths();
        x.person(0, 0, 51, 4);
        x.person(3, 0, 1, 4);
        x.person(0, 0, 0, 4);
        x.water(4, 10);
        Check.due("loss(0)", x.loss(0), 6);
        Check.due("loss(1)", x.loss(1), NONE);
        Check.due("loss(2)", x.loss(2), 0);
        Check.due("loss(3)", x.loss(3), BAD);
        Check.due("loss(-1)", x.loss(-1), BAD);
        SpringOaths y = new SpringOaths();
        y.person(4, 6, 60, 0);
        y.water(0, 10);
        Check.due("by one in 60 years", y.loss(0), 60);
        y.sure(0, 61);
        Check.due("not in 61", y.loss(0), NONE);
        Check.due("nothing changes", y.of(0, 2), 61);
    }

    private static void drowned() {
        SpringOaths x = new SpringOaths();
        Check.due("nobody", x.drowned(), 0);
        x.set(0, 1);
        x.person(3, 0, 0, 4);
        Check.due("one", x.drowned(), 10);
        x.water(9, 10);
        x.person(0, 0, 0, 9);
        Check.due("two of them", x.drowned(), 10);
        x.person(0, 0, 0, 10);
        Check.due("one who wells nothing", x.drowned(), NONE);
        x.bring(2, 4);
        x.water(4, 10);
        Check.due("all are", x.drowned(), 0);
    }

    private static void whereFor() {
        SpringOaths x = new SpringOaths();
        x.person(0, 9, 99, 31);
        Check.due("at the cell itself", x.whereFor(0, 17, 1), 17);
        x.set(2, 0);
        x.height(17, 0);
        x.water(17, 90);
        x.water(9, 99);
        x.water(16, 99);
        Check.due("wherever, it's full", x.whereFor(0, 17, 1), 0);
        Check.due("at stays", x.of(0, 3), 31);
    }

    private static void kindFor() {
        SpringOaths x = new SpringOaths();
        x.person(0, 4, 99, 3);
        Check.due("expert", x.kindFor(0, 3, 1), 3);
        x.set(0, 0);
        Check.due("engineer of several", x.kindFor(0, 3, 1), 1);
        x.sure(0, 20);
        Check.due("doubter", x.kindFor(0, 3, 1), 2);
        x.sure(0, 0);
        Check.due("the first of all", x.kindFor(0, 3, 1), 0);
        Check.due("kind stays", x.of(0, 0), 0);
    }

    private static void annoyed() {
        SpringOaths x = new SpringOaths();
        x.person(0, 5, 0, 3);
        Check.due("not in one year", x.annoyed(0, 3, 1), NONE);
        Check.due("in two", x.annoyed(0, 3, 2), 50);
        Check.due("in three with less", x.annoyed(0, 3, 3), 47);
        x.water(3, 10);
        Check.due("already wet", x.annoyed(0, 3, 1), 0);
        Check.due("sure stays", x.of(0, 2), 0);
        x.water(3, 3);
        x.mind(0, 0, 4);
        x.person(0, 0, 69, 3);
        Check.due("wells, and disagrees, with 99 alone", x.annoyed(0, 3, 1), 99);
        x.sure(1, 68);
        Check.due("with 98", x.annoyed(0, 3, 1), 98);
        x.sure(1, 70);
        Check.due("with none", x.annoyed(0, 3, 1), NONE);
    }

    private static void needed() {
        SpringOaths x = new SpringOaths();
        Check.due("nobody", x.needed(0, 1), NONE);
        x.person(0, 5, 60, 3);
        x.person(0, 7, 50, 3);
        x.person(0, 7, 50, 3);
        Check.due("the first of two", x.needed(3, 1), 1);
        x.sure(0, 80);
        Check.due("who disagrees with two", x.needed(3, 1), 0);
        Check.due("not for another cell", x.needed(4, 1), NONE);
        x.water(3, 99);
        Check.due("nobody for a full one", x.needed(3, 1), NONE);
        x.water(3, 80);
        Check.due("without whom 94, what is above 99 being lost", x.needed(3, 1), 0);
    }

    private static void fewest() {
        SpringOaths x = new SpringOaths();
        Check.due("dry without anybody", x.fewest(0, 1), NONE);
        x.water(0, 10);
        Check.due("wet without anybody", x.fewest(0, 1), 0);
        x.water(0, 0);
        x.person(0, 5, 60, 0);
        x.person(0, 4, 60, 0);
        x.person(0, 5, 60, 0);
        Check.due("two of three", x.fewest(0, 1), 5);
        x.person(1, 5, 60, 0);
        Check.due("one of four", x.fewest(0, 1), 8);
        Check.due("in two years", x.fewest(0, 2), 1);
        x.sure(3, 10);
        x.mind(0, 0, 0);
        x.mind(1, 0, 7);
        x.mind(2, 0, 0);
        Check.due("two who disagree", x.fewest(0, 1), 10);
        Check.due("by none", x.fewest(1, 1), NONE);
        SpringOaths y = new SpringOaths();
        y.water(5, 2);
        for (int i = 0; i < 8; i++) {
            Check.due("by no " + i, y.fewest(5, 1), NONE);
            y.person(0, 1, 50, 5);
        }
        Check.due("by all eight", y.fewest(5, 1), 255);
        y.water(5, 3);
        Check.due("by seven", y.fewest(5, 1), 127);
        y.mind(0, 0, 0);
        Check.due("by the other seven", y.fewest(5, 1), 254);
        y.mind(3, 0, 0);
        Check.due("by none", y.fewest(5, 1), NONE);
    }

    private static void fits() {
        SpringOaths x = new SpringOaths();
        x.person(0, 6, 70, 3);
        for (int sort = 0; sort < 4; sort++) {
            x.sheet(0, sort, 2);
            x.put(0, 0, 6);
            x.put(0, 1, -1);
            Check.due("fits, sort " + sort, x.fits(0, 3, 0, 0), 50);
            Check.due("the least", x.fits(0, 3, 0, 1), 50);
            x.put(0, 0, -1);
            x.put(0, 1, 6);
            Check.due("in the second year alone", x.fits(0, 3, 0, 0), 3);
            Check.due("the least", x.fits(0, 3, 0, 1), 47);
            x.put(0, 0, -2);
            Check.due("none", x.fits(0, 3, 0, 0), 0);
            Check.due("the least of none", x.fits(0, 3, 0, 1), NONE);
        }
        x.sheet(0, 0, 0);
        Check.due("an empty sheet", x.fits(0, 3, 0, 0), 100);
        Check.due("an empty sheet", x.fits(0, 3, 0, 1), 0);
        Check.due("missing", x.fits(1, 3, 0, 0), -11);
        Check.due("no such sheet", x.fits(4, 3, 0, 0), BAD);
        Check.due("no such sheet", x.fits(-1, 3, 0, 0), BAD);
        Check.due("no such cell, missing", x.fits(1, 32, 0, 0), BAD);
        Check.due("no such cell", x.fits(0, -1, 0, 0), BAD);
        Check.due("no such one, missing", x.fits(1, 3, 1, 0), BAD);
        Check.due("no such one", x.fits(0, 3, -1, 0), BAD);
        Check.due("no such what, missing", x.fits(1, 3, 0, 2), BAD);
        Check.due("no such what", x.fits(0, 3, 0, -1), BAD);
        Check.due("sure stays", x.of(0, 2), 70);
    }

    private static void refuses() {
        SpringOaths x = new SpringOaths();
        x.person(0, 6, 70, 3);
        int[][] wrong = {{1, 0, 1}, {-1, 0, 1}, {0, 32, 1}, {0, -1, 1}, {0, 0, 0}, {0, 0, 21}, {0, 0, -1}};
        for (int[] w : wrong) {
            Check.due("whereFor", x.whereFor(w[0], w[1], w[2]), BAD);
            Check.due("kindFor", x.kindFor(w[0], w[1], w[2]), BAD);
            Check.due("annoyed", x.annoyed(w[0], w[1], w[2]), BAD);
            if (w[0] == 0) {
                Check.due("needed", x.needed(w[1], w[2]), BAD);
                Check.due("fewest", x.fewest(w[1], w[2]), BAD);
            }
        }
        Check.holds("20 years are tried", x.whereFor(0, 0, 20) >= 0 && x.kindFor(0, 0, 20) >= 0
            && x.annoyed(0, 3, 20) >= 0 && x.needed(3, 20) >= 0 && x.fewest(3, 20) >= 0);
    }

    private static int draw(int below) {
        drawn = drawn * 1103515245 + 12345;
        return (drawn >>> 16) % below;
    }

    private static int near(int corner) {
        return corner + draw(3) + 8 * draw(2);
    }

    /** The same moor for the same number: an object is asked no more than 512 times. */
    private static SpringOaths moorBy(int number, int people, int corner) {
        int before = drawn;
        drawn = number;
        SpringOaths x = new SpringOaths();
        for (int i = 0; i < people; i++) {
            x.person(draw(6), draw(10), draw(100), near(corner));
        }
        for (int i = 0; i < 10; i++) {
            x.height(near(corner), draw(10));
        }
        x.set(0, draw(10));
        x.set(1, draw(10));
        x.set(2, draw(30));
        x.years(1 + draw(3));
        drawn = before;
        return x;
    }

    private static void moorByNumbers() {
        int number = draw(65536);
        int people = 1 + draw(8);
        int corner = draw(3) * 8 + draw(6);
        Supplier<SpringOaths> made = () -> moorBy(number, people, corner);
        int cell = near(corner);
        int person = draw(people);
        int n = 1 + draw(20);
        firstTimes(made, cell, person);
        bestCell(made.get(), person, cell, n);
        bestKind(made.get(), person, cell, n);
        leastSure(made.get(), person, cell, n);
        withoutSome(made, people, cell, n);
        fitting(made.get(), person, cell, n);
    }

    private static void firstTimes(Supplier<SpringOaths> made, int cell, int person) {
        SpringOaths x = made.get();
        SpringOaths lived = made.get();
        int damp = NONE;
        int loss = NONE;
        int drowned = NONE;
        for (int n = 0; n <= 60; n++) {
            Check.due("level by " + n + ", tried by years", x.level(cell, n), lived.cell(cell, 0));
            damp = damp < 0 && lived.cell(cell, 0) >= 10 ? n : damp;
            loss = loss < 0 && lived.of(person, 6) == 1 ? n : loss;
            drowned = drowned < 0 && (lived.wets(1) & ~lived.wets(0)) == 0 ? n : drowned;
            lived.years(1);
        }
        Check.due("damp", x.damp(cell), damp);
        Check.due("loss", x.loss(person), loss);
        Check.due("drowned", x.drowned(), drowned);
    }

    private static void bestCell(SpringOaths x, int person, int cell, int n) {
        int at = x.of(person, 3);
        int best = -1;
        int most = -1;
        for (int where = 0; where < 32; where++) {
            x.bring(person, where);
            int level = x.level(cell, n);
            best = level > most ? where : best;
            most = Math.max(level, most);
        }
        x.bring(person, at);
        Check.due("whereFor", x.whereFor(person, cell, n), best);
    }

    private static void bestKind(SpringOaths x, int person, int cell, int n) {
        int own = x.of(person, 0);
        int sense = x.of(person, 1);
        int best = -1;
        int most = -1;
        for (int kind = 0; kind < 6; kind++) {
            x.mind(person, kind, sense);
            int level = x.level(cell, n);
            best = level > most ? kind : best;
            most = Math.max(level, most);
        }
        x.mind(person, own, sense);
        Check.due("kindFor", x.kindFor(person, cell, n), best);
    }

    private static void leastSure(SpringOaths x, int person, int cell, int n) {
        int own = x.of(person, 2);
        int least = NONE;
        for (int v = 99; v >= 0; v--) {
            x.sure(person, v);
            least = x.level(cell, n) >= 10 ? v : least;
        }
        x.sure(person, own);
        Check.due("annoyed", x.annoyed(person, cell, n), least);
    }

    /** A lost one who is merely sworn is without effect for ever. */
    private static int levelOf(SpringOaths x, int set, int people, int cell, int n) {
        for (int i = 0; i < people; i++) {
            if ((set >> i & 1) == 0) {
                x.mind(i, 0, 0);
                x.sure(i, 0);
            }
        }
        return x.level(cell, n);
    }

    private static void withoutSome(Supplier<SpringOaths> made, int people, int cell, int n) {
        int all = (1 << people) - 1;
        int needed = NONE;
        int least = made.get().level(cell, n);
        for (int i = 0; i < people; i++) {
            int level = levelOf(made.get(), all & ~(1 << i), people, cell, n);
            needed = level < least ? i : needed;
            least = Math.min(level, least);
        }
        Check.due("needed", made.get().needed(cell, n), needed);
        int fewest = NONE;
        for (int size = 0; size <= people && fewest < 0; size++) {
            for (int set = 0; set <= all && fewest < 0; set++) {
                if (Integer.bitCount(set) == size && levelOf(made.get(), set, people, cell, n) >= 10) {
                    fewest = set;
                }
            }
        }
        Check.due("fewest", made.get().fewest(cell, n), fewest);
    }

    private static void fitting(SpringOaths x, int person, int cell, int n) {
        int years = Math.min(n, 3);
        int[] told = new int[years];
        int own = draw(100);
        x.sheet(0, draw(4), years);
        x.sure(person, own);
        for (int i = 0; i < years; i++) {
            told[i] = draw(3) == 0 ? -1 : x.level(cell, i + 1);
            x.put(0, i, told[i]);
        }
        int found = 0;
        int least = NONE;
        for (int v = 99; v >= 0; v--) {
            x.sure(person, v);
            boolean fits = true;
            for (int i = 0; i < years; i++) {
                fits &= told[i] == -1 || told[i] == x.level(cell, i + 1);
            }
            found += fits ? 1 : 0;
            least = fits ? v : least;
        }
        x.sure(person, own);
        Check.due("fits, how many", x.fits(0, cell, person, 0), found);
        Check.due("fits, the least", x.fits(0, cell, person, 1), least);
        Check.holds("the one that it was told by fits", found > 0);
    }
}
