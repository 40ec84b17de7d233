import java.util.ArrayList;
import java.util.List;

/** All that can be asked of an object. To ask for the last of it, the TAPE is used and what is kept is taken. */
final class Seen {
    private final SpringOaths x;
    private final List<Long> answers = new ArrayList<>();

    private Seen(SpringOaths x) {
        this.x = x;
    }

    static List<Long> all(SpringOaths x) {
        Seen seen = new Seen(x);
        seen.moor();
        seen.rows();
        seen.trace();
        seen.shelves();
        seen.sheets();
        seen.tape();
        seen.kept();
        return seen.answers;
    }

    private void sees(long answer) {
        answers.add(answer);
    }

    private void moor() {
        for (int what = 0; what < 7; what++) {
            sees(x.many(what));
        }
        for (int what = 0; what < 5; what++) {
            sees(x.state(what));
        }
        for (int what = 0; what < 3; what++) {
            sees(x.wets(what));
        }
        for (int law = 0; law < 4; law++) {
            sees(x.lawOf(law));
        }
        for (int cell = 0; cell < 32; cell++) {
            sees(x.cell(cell, 0));
            sees(x.cell(cell, 1));
        }
        people();
    }

    private void people() {
        int many = x.many(0);
        for (int person = 0; person < many; person++) {
            for (int what = 0; what < 5; what++) {
                sees(x.of(person, what));
            }
        }
    }

    private void rows() {
        int many = x.many(4);
        for (int i = 0; i < many; i++) {
            for (int what = 0; what < 3; what++) {
                sees(x.row(i, what));
            }
        }
    }

    private void trace() {
        int many = x.many(6);
        for (int i = 0; i < many; i++) {
            sees(x.trace(i));
        }
    }

    private void shelves() {
        for (int shelf = 0; shelf < 4; shelf++) {
            sees(x.taken(shelf, 0));
            for (int as = 10; as < 14; as++) {
                sees(x.taken(shelf, as));
            }
            sees(x.act(shelf, 0, 0));
            sees(x.act(shelf, 3, 5));
        }
    }

    /** An item may be as low as what refuses it: how many there are is told by a shelf that holds the row. */
    private void sheets() {
        for (int sheet = 0; sheet < 4; sheet++) {
            x.shelf(0, 1, sheet);
            for (int sort = 0; sort < 4; sort++) {
                int many = x.taken(0, 10 + sort);
                sees(many);
                for (int i = 0; i < many; i++) {
                    sees(x.item(sheet, sort, i));
                }
            }
        }
    }

    /** What is on the TAPE is seen by what it becomes; z is seen, too. */
    private void tape() {
        sees(x.seed(3));
        sees(x.moor());
        few();
        people();
    }

    private void kept() {
        sees(x.again());
        few();
        people();
        sees(x.seed(3));
    }

    private void few() {
        for (int what = 0; what < 5; what++) {
            sees(x.state(what));
        }
        for (int what = 0; what < 3; what++) {
            sees(x.wets(what));
        }
        for (int law = 0; law < 4; law++) {
            sees(x.lawOf(law));
        }
        for (int cell = 0; cell < 12; cell++) {
            sees(x.level(cell, 2));
        }
    }
}
