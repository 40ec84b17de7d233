/** Promises 4 to 11: LAWS and PEOPLE. */
public final class PeopleTest {
    private static final int BAD = SpringOaths.BAD;

    public static void main(String[] args) {
        set();
        person();
        wells();
        winsAndLoses();
        disagree();
        ofRefuses();
        mind();
        sure();
        bring();
        Check.end("PeopleTest");
    }

    private static void set() {
        int[] first = {2, 3, 20, 20};
        int[] most = {9, 9, 50, 99};
        SpringOaths x = new SpringOaths();
        for (int law = 0; law < 4; law++) {
            Check.due("lawOf", x.lawOf(law), first[law]);
            Check.due("set to the most", x.set(law, most[law]), first[law]);
            Check.due("set above the most", x.set(law, most[law] + 1), BAD);
            Check.due("set below 0", x.set(law, -1), BAD);
            Check.due("lawOf", x.lawOf(law), most[law]);
            Check.due("set to 0", x.set(law, 0), most[law]);
            Check.due("lawOf", x.lawOf(law), 0);
        }
        Check.due("set(4, 0)", x.set(4, 0), BAD);
        Check.due("set(-1, 0)", x.set(-1, 0), BAD);
        Check.due("lawOf(4)", x.lawOf(4), BAD);
        Check.due("lawOf(-1)", x.lawOf(-1), BAD);
    }

    private static void person() {
        SpringOaths x = new SpringOaths();
        Check.due("kind -1", x.person(-1, 0, 0, 0), BAD);
        Check.due("kind 6", x.person(6, 0, 0, 0), BAD);
        Check.due("sense -1", x.person(0, -1, 0, 0), BAD);
        Check.due("sense 10", x.person(0, 10, 0, 0), BAD);
        Check.due("sure -1", x.person(0, 0, -1, 0), BAD);
        Check.due("sure 100", x.person(0, 0, 100, 0), BAD);
        Check.due("at -1", x.person(0, 0, 0, -1), BAD);
        Check.due("at 32", x.person(0, 0, 0, 32), BAD);
        Check.due("many(0)", x.many(0), 0);
        for (int i = 0; i < 8; i++) {
            Check.due("person", x.person(5, 9, 99, 31), i);
            Check.due("many(0)", x.many(0), i + 1);
        }
        Check.due("a ninth", x.person(5, 9, 99, 31), SpringOaths.FULL);
        Check.due("a bad ninth", x.person(6, 9, 99, 31), BAD);
        Check.due("many(0)", x.many(0), 8);
    }

    private static void wells() {
        SpringOaths x = new SpringOaths();
        for (int kind = 0; kind < 6; kind++) {
            x.person(kind, 7, 50, kind);
        }
        int[] sure = {7, 14, 7, 16, 3, 7};
        int[] unsure = {0, 0, 1, 2, 0, 0};
        int[] lost = {0, 0, 0, 2, 0, 0};
        int[] senseless = {0, 0, 1, 2, 0, 0};
        for (int kind = 0; kind < 6; kind++) {
            Check.due("wells, sure 50, kind " + kind, x.of(kind, 4), sure[kind]);
            x.sure(kind, 49);
            Check.due("wells, sure 49, kind " + kind, x.of(kind, 4), unsure[kind]);
            x.sure(kind, 1);
            Check.due("wells, sure 1, kind " + kind, x.of(kind, 4), unsure[kind]);
            x.sure(kind, 0);
            Check.due("wells, lost, kind " + kind, x.of(kind, 4), lost[kind]);
            x.sure(kind, 99);
            x.mind(kind, kind, 0);
            Check.due("wells, sense 0, kind " + kind, x.of(kind, 4), senseless[kind]);
            x.mind(kind, kind, 7);
        }
        x.set(0, 9);
        Check.due("expert with SPRING 9", x.of(3, 4), 23);
        Check.due("engineer with SPRING 9", x.of(1, 4), 14);
        Check.due("drunkard in year 0", x.of(5, 4), 7);
        x.years(1);
        Check.due("drunkard in year 1", x.of(5, 4), 0);
        x.years(1);
        Check.due("drunkard in year 2", x.of(5, 4), 7);
    }

    private static void winsAndLoses() {
        int[] wins = {3, 5, 1, 5, 1, 0};
        int[] losesWithout = {10, 5, 10, 0, -5, 30};
        int[] losesWith9 = {10, 5, 19, 0, 4, 30};
        SpringOaths x = new SpringOaths();
        for (int kind = 0; kind < 6; kind++) {
            x.person(kind, 0, 50, 0);
            Check.due("wins, kind " + kind, x.of(kind, 5), wins[kind]);
            Check.due("loses, kind " + kind, x.loses(kind), 1000 + losesWithout[kind]);
            x.mind(kind, kind, 9);
            Check.due("wins, kind " + kind, x.of(kind, 5), wins[kind]);
            Check.due("loses, kind " + kind, x.loses(kind), 1000 + losesWith9[kind]);
        }
        Check.due("loses(6)", x.loses(6), BAD);
        Check.due("loses(-1)", x.loses(-1), BAD);
    }

    private static void disagree() {
        SpringOaths x = new SpringOaths();
        x.person(0, 0, 31, 3);
        x.person(0, 0, 61, 3);
        x.person(0, 0, 1, 3);
        x.person(0, 0, 0, 3);
        x.person(0, 0, 99, 4);
        Check.due("of(0, 7)", x.of(0, 7), 6);
        Check.due("of(1, 7)", x.of(1, 7), 5);
        Check.due("of(2, 7)", x.of(2, 7), 3);
        Check.due("of(3, 7), lost", x.of(3, 7), 0);
        Check.due("of(4, 7), elsewhere", x.of(4, 7), 0);
        Check.due("of(3, 6)", x.of(3, 6), 1);
        Check.due("of(2, 6)", x.of(2, 6), 0);
        x.sure(0, 32);
        Check.due("differ by 29", x.of(0, 7), 4);
        x.bring(4, 3);
        Check.due("of(4, 7)", x.of(4, 7), 7);
        Check.due("cell(3, 4)", x.cell(3, 4), 5);
        Check.due("state(4)", x.state(4), 5);
    }

    private static void ofRefuses() {
        SpringOaths x = new SpringOaths();
        Check.due("nobody", x.of(0, 0), BAD);
        x.person(0, 0, 0, 0);
        Check.due("of(1, 0)", x.of(1, 0), BAD);
        Check.due("of(-1, 0)", x.of(-1, 0), BAD);
        Check.due("of(0, 8)", x.of(0, 8), BAD);
        Check.due("of(0, -1)", x.of(0, -1), BAD);
    }

    private static void mind() {
        SpringOaths x = new SpringOaths();
        x.person(2, 3, 44, 5);
        Check.due("mind", x.mind(0, 5, 9), 2);
        Check.due("kind", x.of(0, 0), 5);
        Check.due("sense", x.of(0, 1), 9);
        Check.due("sure stays", x.of(0, 2), 44);
        Check.due("at stays", x.of(0, 3), 5);
        Check.due("mind(1, ..)", x.mind(1, 0, 0), BAD);
        Check.due("mind(-1, ..)", x.mind(-1, 0, 0), BAD);
        Check.due("kind 6", x.mind(0, 6, 0), BAD);
        Check.due("kind -1", x.mind(0, -1, 0), BAD);
        Check.due("sense 10", x.mind(0, 0, 10), BAD);
        Check.due("sense -1", x.mind(0, 0, -1), BAD);
        Check.due("kind stays", x.of(0, 0), 5);
        Check.due("sense stays", x.of(0, 1), 9);
    }

    private static void sure() {
        SpringOaths x = new SpringOaths();
        x.person(2, 3, 44, 5);
        Check.due("sure 99", x.sure(0, 99), 44);
        Check.due("sure 0", x.sure(0, 0), 99);
        Check.due("sure 100", x.sure(0, 100), BAD);
        Check.due("sure -1", x.sure(0, -1), BAD);
        Check.due("sure(1, 0)", x.sure(1, 0), BAD);
        Check.due("sure(-1, 0)", x.sure(-1, 0), BAD);
        Check.due("stays", x.of(0, 2), 0);
    }

    private static void bring() {
        SpringOaths x = new SpringOaths();
        x.person(2, 3, 44, 5);
        Check.due("bring 31", x.bring(0, 31), 5);
        Check.due("bring 0", x.bring(0, 0), 31);
        Check.due("bring 32", x.bring(0, 32), BAD);
        Check.due("bring -1", x.bring(0, -1), BAD);
        Check.due("bring(1, 0)", x.bring(1, 0), BAD);
        Check.due("bring(-1, 0)", x.bring(-1, 0), BAD);
        Check.due("stays", x.of(0, 3), 0);
    }
}
