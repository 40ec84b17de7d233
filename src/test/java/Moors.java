import java.util.function.Supplier;

/** Objects to ask: nothing there, some there, everything full; each with a TAPE, or without. */
final class Moors {
    private static final int TAPE_MOST = 200;

    private Moors() {
    }

    static SpringOaths empty() {
        return new SpringOaths();
    }

    /** Three at one cell; shelf 0 holds one, shelf 1 bytes; sheets 2 and 3 are missing; two rows. */
    static SpringOaths some() {
        SpringOaths x = new SpringOaths();
        x.person(4, 5, 60, 9);
        x.keep();
        x.person(0, 7, 90, 9);
        x.person(2, 3, 0, 10);
        x.set(2, 4);
        x.height(9, 7);
        x.height(10, 2);
        x.water(9, 30);
        x.water(31, 10);
        x.years(1);
        x.seed(77);
        x.prove(1, 2);
        x.sheet(0, 0, 5);
        x.put(0, 4, -3);
        x.sheet(1, 3, 2);
        x.put(1, 0, 8);
        x.shelf(0, 0, 0);
        x.shelf(1, 1, 0);
        x.act(0, 3, 6);
        return x;
    }

    /** Eight people, ten rows, a sheet of each sort (40, 8, 3, 0 items), each shelf taken, a trace. */
    static SpringOaths full() {
        SpringOaths x = new SpringOaths();
        for (int i = 0; i < 8; i++) {
            x.person(i % 6, 9 - i, i == 2 ? 0 : 12 * i + 5, i % 3);
        }
        x.set(0, 9);
        x.water(0, 99);
        x.water(1, 55);
        x.height(1, 9);
        x.height(2, 0);
        x.keep();
        x.years(1);
        x.seed(-5);
        x.prove(7, 10);
        int[] sizes = {40, 8, 3, 0};
        for (int sheet = 0; sheet < 4; sheet++) {
            x.sheet(sheet, sheet, sizes[sheet]);
            x.put(sheet, sizes[sheet] - 1, 100 + sheet);
            x.put(sheet, 0, -7);
        }
        x.shelf(0, 0, 7);
        x.shelf(1, 0, 4);
        x.shelf(2, 1, 0);
        x.shelf(3, 1, 3);
        x.act(1, 3, 11);
        return x;
    }

    static SpringOaths someWithTape() {
        SpringOaths x = some();
        Check.feed(x, "engineer at 3 sense 2; height 4 is 1;");
        return x;
    }

    /** Not a byte more goes on its TAPE, which is well told. */
    static SpringOaths fullWithTape() {
        SpringOaths x = full();
        StringBuilder text = new StringBuilder("dowser at 31 sure 1 sense 9;bog 50;water 4 is 44;");
        while (text.length() < TAPE_MOST) {
            text.append(' ');
        }
        Check.feed(x, text.toString());
        return x;
    }

    /** Two by the same calls: one is asked what is due, and then nothing tells it from the other. */
    static void changesNothing(String call, Supplier<SpringOaths> made, Call asked, long due) {
        SpringOaths one = made.get();
        SpringOaths other = made.get();
        Check.due(call, asked.of(one), due);
        Check.holds(call + " changes nothing", Seen.all(one).equals(Seen.all(other)));
    }

    interface Call {
        long of(SpringOaths x);
    }
}
