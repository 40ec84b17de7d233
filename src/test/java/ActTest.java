/** Promises 45 and 46: ACTS, and THE TRACE of the latest one. */
public final class ActTest {
    public static void main(String[] args) {
        actRefuses();
        partedByZero();
        traceIsOfTheLatest();
        everyBody();
        Check.end("ActTest");
    }

    private static void actRefuses() {
        SpringOaths x = new SpringOaths();
        x.person(2, 4, 30, 0);
        x.sheet(0, 0, 3);
        x.shelf(0, 0, 0);
        x.shelf(1, 1, 0);
        int[][] wrong = {{4, 0}, {-1, 0}, {0, 4}, {0, -1}, {1, 0}, {2, 0}};
        for (int[] w : wrong) {
            Check.due("act", x.act(0, 3, 5), (5 - 4 + 1 ^ 9) - 0);
            Check.due("many(6)", x.many(6), 6);
            Check.due("act(" + w[0] + ", " + w[1] + ")", x.act(w[0], w[1], 5), 0);
            Check.due("no trace", x.many(6), 0);
            Check.due("no trace", x.trace(0), SpringOaths.NONE);
        }
        Check.moor(x, "");
        Check.due("one who is gone", x.act(0, 0, 5), 0);
    }

    private static void partedByZero() {
        SpringOaths x = new SpringOaths();
        x.person(0, 0, 0, 0);
        x.person(5, 1, 0, 0);
        x.person(4, 2, 0, 0);
        x.person(3, 3, 0, 0);
        int[][] traces = {{12}, {61, 12}, {12}, {50, 12}};
        for (int i = 0; i < 4; i++) {
            x.shelf(i, 0, i);
            Check.due("act(" + i + ", 2, 7)", x.act(i, 2, 7), -15);
            trace(x, traces[i]);
        }
        Check.due("signs of the dowser", x.act(2, 3, 7), -15);
        trace(x, new int[] {31, 13, 41, 11, 40, 30, 10, 40, 30, 10, 12});
        x.mind(1, 5, 2);
        Check.due("the least by -1", x.act(1, 2, 1), 1 / (2 - 1) + 1 + 3);
        x.mind(2, 2, 1);
        Check.due("the least by -1", x.act(2, 2, Integer.MIN_VALUE), Integer.MIN_VALUE);
    }

    private static void trace(SpringOaths x, int[] want) {
        Check.due("many(6)", x.many(6), want.length);
        for (int i = 0; i < want.length; i++) {
            Check.due("trace(" + i + ")", x.trace(i), want[i]);
        }
        Check.due("behind the last", x.trace(want.length), SpringOaths.NONE);
        Check.due("trace(-1)", x.trace(-1), SpringOaths.NONE);
    }

    private static void traceIsOfTheLatest() {
        SpringOaths x = new SpringOaths();
        Check.due("at first", x.trace(0), SpringOaths.NONE);
        x.person(4, 5, 0, 0);
        x.shelf(0, 0, 0);
        x.act(0, 3, 7);
        Check.due("many(6)", x.many(6), 11);
        Check.due("trace(30)", x.trace(30), SpringOaths.NONE);
        Check.due("trace(max)", x.trace(Integer.MAX_VALUE), SpringOaths.NONE);
        x.act(0, 0, 7);
        trace(x, new int[] {40, 30, 10});
    }

    /** Number 2 with SENSE 5, as each KIND: what each ACT with 11 answers, and which bodies run. */
    private static void everyBody() {
        int[][] answers = {{17, 12, 3, 12 ^ 9}, {17, 24, 3, 24 ^ 9}, {18, 13, 3, (13 ^ 9) - 0},
            {17 ^ 2, ((17 ^ 2) - 5) * 2, 14 - 5, ((17 ^ 2) - 5) * 2 ^ 9},
            {-18, -18 - 5 - 12, 3, (-35 ^ 9) - 0}, {17, 12, 3 + 8, 50 - (12 ^ 9)}};
        int[][][] traces = {
            {{10}, {11, 10}, {12}, {13, 11, 10}},
            {{10}, {20, 11, 10}, {12}, {13, 20, 11, 10}},
            {{30, 10}, {11, 30, 10}, {12}, {31, 13, 11, 30, 10, 12}},
            {{51, 10}, {20, 11, 51, 10}, {50, 12}, {13, 20, 11, 51, 10}},
            {{40, 30, 10}, {41, 11, 40, 30, 10, 40, 30, 10}, {12}, {31, 13, 41, 11, 40, 30, 10, 40, 30, 10, 12}},
            {{10}, {11, 10}, {61, 12, 10}, {60, 13, 11, 10}},
        };
        SpringOaths x = new SpringOaths();
        for (int i = 0; i < 3; i++) {
            x.person(0, 0, 50, 0);
        }
        x.shelf(3, 0, 2);
        for (int kind = 0; kind < 6; kind++) {
            x.mind(2, kind, 5);
            for (int act = 0; act < 4; act++) {
                Check.due("KIND " + kind + ": act(3, " + act + ", 11)", x.act(3, act, 11), answers[kind][act]);
                trace(x, traces[kind][act]);
            }
        }
    }
}
