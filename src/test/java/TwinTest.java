import java.util.ArrayList;
import java.util.List;

/**
 * Promises 45 and 46, and YEARS once more: told and random moors beside a twin that is written as the document
 * tells it, with a class for each KIND and super for super.
 */
public final class TwinTest {
    private static int drawn = 11;

    public static void main(String[] args) {
        actRefuses();
        partedByZero();
        traceIsOfTheLatest();
        for (int i = 0; i < 200; i++) {
            acts();
        }
        for (int i = 0; i < 500; i++) {
            years();
        }
        Check.end("TwinTest");
    }

    private static void actRefuses() {
        SpringOaths x = new SpringOaths();
        x.person(2, 4, 30, 0);
        x.sheet(0, 0, 3);
        x.shelf(0, 0, 0);
        x.shelf(1, 1, 0);
        int[][] wrong = {{4, 0}, {-1, 0}, {0, 4}, {0, -1}, {1, 0}, {2, 0}};
        for (int[] w : wrong) {
            Check.due("act", x.act(0, 3, 5), (5 - 4 + 1 ^ 9) - 0);
            Check.due("many(6)", x.many(6), 6);
            Check.due("act(" + w[0] + ", " + w[1] + ")", x.act(w[0], w[1], 5), 0);
            Check.due("no trace", x.many(6), 0);
            Check.due("no trace", x.trace(0), SpringOaths.NONE);
        }
        Check.moor(x, "");
        Check.due("one who is gone", x.act(0, 0, 5), 0);
    }

    private static void partedByZero() {
        SpringOaths x = new SpringOaths();
        x.person(0, 0, 0, 0);
        x.person(5, 1, 0, 0);
        x.person(4, 2, 0, 0);
        x.person(3, 3, 0, 0);
        int[][] traces = {{12}, {61, 12}, {12}, {50, 12}};
        for (int i = 0; i < 4; i++) {
            x.shelf(i, 0, i);
            Check.due("act(" + i + ", 2, 7)", x.act(i, 2, 7), -15);
            trace(x, traces[i]);
        }
        Check.due("signs of the dowser", x.act(2, 3, 7), -15);
        trace(x, new int[] {31, 13, 41, 11, 40, 30, 10, 40, 30, 10, 12});
        x.mind(1, 5, 2);
        Check.due("the least by -1", x.act(1, 2, 1), 1 / (2 - 1) + 1 + 3);
        x.mind(2, 2, 1);
        Check.due("the least by -1", x.act(2, 2, Integer.MIN_VALUE), Integer.MIN_VALUE);
    }

    private static void trace(SpringOaths x, int[] want) {
        Check.due("many(6)", x.many(6), want.length);
        for (int i = 0; i < want.length; i++) {
            Check.due("trace(" + i + ")", x.trace(i), want[i]);
        }
        Check.due("behind the last", x.trace(want.length), SpringOaths.NONE);
        Check.due("trace(-1)", x.trace(-1), SpringOaths.NONE);
    }

    private static void traceIsOfTheLatest() {
        SpringOaths x = new SpringOaths();
        Check.due("at first", x.trace(0), SpringOaths.NONE);
        x.person(4, 5, 0, 0);
        x.shelf(0, 0, 0);
        x.act(0, 3, 7);
        Check.due("many(6)", x.many(6), 11);
        Check.due("trace(30)", x.trace(30), SpringOaths.NONE);
        Check.due("trace(max)", x.trace(Integer.MAX_VALUE), SpringOaths.NONE);
        x.act(0, 0, 7);
        trace(x, new int[] {40, 30, 10});
    }

    private static int draw(int below) {
        drawn = drawn * 1103515245 + 12345;
        return (drawn >>> 16) % below;
    }

    private static void acts() {
        SpringOaths x = new SpringOaths();
        List<Sworn> twins = new ArrayList<>();
        for (int i = 0; i < 8; i++) {
            int kind = draw(6);
            int sense = draw(10);
            x.person(kind, sense, 50, 0);
            twins.add(born(kind, i, sense, 50, 0));
        }
        for (int i = 0; i < 8; i++) {
            int act = draw(4);
            int number = draw(3) == 0 ? draw(65536) * 65521 : draw(100) - 50;
            x.shelf(i % 4, 0, i);
            Sworn twin = twins.get(i);
            Check.due("act", x.act(i % 4, act, number), twin.act(act, number));
            Check.due("many(6)", x.many(6), twin.trace.size());
            for (int k = 0; k < twin.trace.size(); k++) {
                Check.due("trace(" + k + ")", x.trace(k), twin.trace.get(k));
            }
        }
    }

    private static void years() {
        SpringOaths x = new SpringOaths();
        Twin twin = new Twin();
        int people = draw(9);
        for (int i = 0; i < people; i++) {
            // at the first three columns, where same() asks who wells
            int[] one = {draw(6), draw(10), draw(100), draw(4) * 8 + draw(3)};
            x.person(one[0], one[1], one[2], one[3]);
            twin.people.add(born(one[0], i, one[1], one[2], one[3]));
        }
        for (int cell = 0; cell < 32; cell++) {
            twin.heights[cell] = draw(10);
            twin.waters[cell] = draw(3) == 0 ? draw(100) : 0;
            x.height(cell, twin.heights[cell]);
            x.water(cell, twin.waters[cell]);
        }
        int[] most = {9, 9, 50, 99};
        for (int law = 0; law < 4; law++) {
            twin.laws[law] = draw(most[law] + 1);
            x.set(law, twin.laws[law]);
        }
        unchanging(x, twin);
        for (int i = 0; i < 4; i++) {
            same(x, twin);
            if (draw(2) == 0) {
                x.years(1);
                twin.year();
            } else {
                x.year();
                twin.yearByDraws();
            }
        }
        same(x, twin);
        Check.due("z", x.seed(0), twin.z);
    }

    private static void unchanging(SpringOaths x, Twin twin) {
        for (int cell = 0; cell < 32; cell++) {
            Check.due("lowest(" + cell + ")", x.lowest(cell), twin.lowest(cell));
        }
        for (Sworn one : twin.people) {
            Check.due("of(" + one.n + ", 5)", x.of(one.n, 5), one.wins());
            Check.due("loses(" + one.n + ")", x.loses(one.n), 1000 + one.loses());
        }
    }

    private static void same(SpringOaths x, Twin twin) {
        Check.due("year", x.state(0), twin.year);
        for (int cell = 0; cell < 32; cell++) {
            Check.due("cell(" + cell + ", 0)", x.cell(cell, 0), twin.waters[cell]);
            if (cell % 8 < 3) {
                Check.due("cell(" + cell + ", 3)", x.cell(cell, 3), twin.wellingAt(cell));
                Check.due("cell(" + cell + ", 4)", x.cell(cell, 4), twin.pairsAt(cell));
            }
        }
        for (Sworn one : twin.people) {
            Check.due("of(" + one.n + ", 2)", x.of(one.n, 2), one.sure);
            Check.due("of(" + one.n + ", 4)", x.of(one.n, 4), one.wells(twin));
        }
    }

    private static Sworn born(int kind, int n, int sense, int sure, int at) {
        Sworn one = switch (kind) {
            case 1 -> new Engineer();
            case 2 -> new Doubter();
            case 3 -> new Expert();
            case 4 -> new Dowser();
            case 5 -> new Drunkard();
            default -> new Sworn();
        };
        one.n = n;
        one.a = sense;
        one.sure = sure;
        one.at = at;
        return one;
    }

    private static final class Twin {
        final int[] laws = new int[4];
        final int[] heights = new int[32];
        final int[] waters = new int[32];
        final List<Sworn> people = new ArrayList<>();
        int year = 0;
        int z = 1;

        int lowest(int cell) {
            int best = -3;
            for (int other = 0; other < 32; other++) {
                boolean beside = Math.abs(other / 8 - cell / 8) + Math.abs(other % 8 - cell % 8) == 1;
                if (beside && heights[other] < heights[cell] && (best < 0 || heights[other] < heights[best])) {
                    best = other;
                }
            }
            return best;
        }

        int wellingAt(int cell) {
            return people.stream().filter(one -> one.at == cell).mapToInt(one -> one.wells(this)).sum();
        }

        int pairsAt(int cell) {
            int pairs = 0;
            for (Sworn one : people) {
                for (Sworn other : people) {
                    boolean here = one.n < other.n && one.at == cell && other.at == cell;
                    if (here && one.sure > 0 && other.sure > 0 && Math.abs(one.sure - other.sure) >= 30) {
                        pairs++;
                    }
                }
            }
            return pairs;
        }

        void year() {
            int[] more = new int[32];
            for (int cell = 0; cell < 32; cell++) {
                more[cell] = wellingAt(cell) + laws[1] * pairsAt(cell);
            }
            for (int cell = 0; cell < 32; cell++) {
                waters[cell] = Math.min(99, waters[cell] + more[cell]);
            }
            for (int cell = 0; cell < 32; cell++) {
                int to = lowest(cell);
                if (to >= 0 && waters[cell] > laws[2]) {
                    int half = (waters[cell] - laws[2]) / 2;
                    waters[cell] -= half;
                    waters[to] = Math.min(99, waters[to] + half);
                }
            }
            for (Sworn one : people) {
                if (one.sure > 0) {
                    int sure = waters[one.at] >= 10 ? one.sure - one.loses() : one.sure + one.wins();
                    one.sure = sure < 0 ? 0 : sure > 99 ? 99 : sure;
                }
            }
            year++;
        }

        int draw() {
            z = z * 1103515245 + 12345;
            return z >>> 16;
        }

        void yearByDraws() {
            if (!people.isEmpty()) {
                Sworn one = people.get(draw() % people.size());
                if (draw() % 100 < laws[3]) {
                    one.sure = one.sure / 2;
                }
            }
            year();
        }
    }

    private static class Sworn {
        final List<Integer> trace = new ArrayList<>();
        int n;
        int a;
        int sure;
        int at;

        int wells(Twin moor) {
            return sure >= 50 ? a : 0;
        }

        int loses() {
            return 10;
        }

        int wins() {
            return 3;
        }

        int swears(int x) {
            trace.add(10);
            return x + n * 3;
        }

        int doubts(int x) {
            trace.add(11);
            return swears(x) - a;
        }

        int parts(int x) {
            trace.add(12);
            return x / (a - n);
        }

        int signs(int x) {
            trace.add(13);
            return doubts(x) ^ 9;
        }

        int act(int act, int x) {
            trace.clear();
            try {
                return switch (act) {
                    case 0 -> swears(x);
                    case 1 -> doubts(x);
                    case 2 -> parts(x);
                    default -> signs(x);
                };
            } catch (ArithmeticException byZero) {
                return -15;
            }
        }
    }

    private static class Engineer extends Sworn {
        @Override
        int wells(Twin moor) {
            return super.wells(moor) * 2;
        }

        @Override
        int loses() {
            return super.loses() / 2;
        }

        @Override
        int wins() {
            return super.wins() + 2;
        }

        @Override
        int doubts(int x) {
            trace.add(20);
            return super.doubts(x) * 2;
        }
    }

    private static class Doubter extends Sworn {
        @Override
        int wells(Twin moor) {
            int wells = super.wells(moor);
            return wells == 0 && sure > 0 ? 1 : wells;
        }

        @Override
        int loses() {
            return super.loses() + a;
        }

        @Override
        int wins() {
            return super.wins() - 2;
        }

        @Override
        int swears(int x) {
            trace.add(30);
            return super.swears(x) + 1;
        }

        @Override
        int signs(int x) {
            trace.add(31);
            return super.signs(x) - parts(n);
        }
    }

    private static class Expert extends Engineer {
        @Override
        int wells(Twin moor) {
            return super.wells(moor) + moor.laws[0];
        }

        @Override
        int loses() {
            return 0;
        }

        @Override
        int parts(int x) {
            trace.add(50);
            return super.parts(x * 4) - a;
        }

        @Override
        int swears(int x) {
            trace.add(51);
            return super.swears(x) ^ n;
        }
    }

    private static class Dowser extends Doubter {
        @Override
        int wells(Twin moor) {
            return super.wells(moor) / 2;
        }

        @Override
        int loses() {
            return super.loses() - 15;
        }

        @Override
        int swears(int x) {
            trace.add(40);
            return 0 - super.swears(x);
        }

        @Override
        int doubts(int x) {
            trace.add(41);
            return super.doubts(x) + swears(a);
        }
    }

    private static class Drunkard extends Sworn {
        @Override
        int wells(Twin moor) {
            return moor.year % 2 == 0 ? super.wells(moor) : 0;
        }

        @Override
        int loses() {
            return super.loses() * 3;
        }

        @Override
        int wins() {
            return 0;
        }

        @Override
        int signs(int x) {
            trace.add(60);
            return 50 - super.signs(x);
        }

        @Override
        int parts(int x) {
            trace.add(61);
            return super.parts(x) + swears(n);
        }
    }
}
