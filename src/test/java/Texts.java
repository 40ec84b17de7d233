import java.util.function.IntUnaryOperator;

/** TEXTS by draws: well told ones, and some with a sign that was changed, put in or left out. */
final class Texts {
    private static final String[] KINDS = {"sworn", "engineer", "doubter", "expert", "dowser", "drunkard"};
    private static final String[] LAWS = {"spring", "seep", "bog", "drink"};
    private static final int[] LAW_MOST = {9, 9, 50, 99};
    private static final int TAPE_MOST = 200;

    private final IntUnaryOperator draw;
    private final StringBuilder text = new StringBuilder();

    private Texts(IntUnaryOperator draw) {
        this.draw = draw;
    }

    static String drawn(IntUnaryOperator draw) {
        Texts texts = new Texts(draw);
        int sentences = draw.applyAsInt(11);
        for (int i = 0; i < sentences && texts.text.length() < TAPE_MOST - 40; i++) {
            texts.sentence();
        }
        if (draw.applyAsInt(2) == 0) {
            texts.spoil();
        }
        return texts.text.toString();
    }

    private void sentence() {
        int choice = draw.applyAsInt(10);
        if (choice < 6) {
            name(KINDS[choice]);
            name("at");
            number(31);
            may("sure", 99);
            may("sense", 9);
        } else if (choice < 8) {
            name(choice == 6 ? "height" : "water");
            number(31);
            name("is");
            number(choice == 6 ? 9 : 99);
        } else {
            int law = draw.applyAsInt(4);
            name(LAWS[law]);
            number(LAW_MOST[law]);
        }
        text.append(';');
        blanks(draw.applyAsInt(3) / 2);
    }

    private void may(String name, int most) {
        if (draw.applyAsInt(2) == 0) {
            name(name);
            number(most);
        }
    }

    private void name(String name) {
        text.append(name);
        blanks(draw.applyAsInt(20) == 0 ? 2 : 1);
    }

    /** Now and then one too great, or with a 0 ahead. */
    private void number(int most) {
        int choice = draw.applyAsInt(40);
        text.append(choice == 1 ? "0" : "");
        text.append(choice == 0 ? most + 1 : draw.applyAsInt(most + 1));
        blanks(1);
    }

    private void blanks(int n) {
        text.append(" ".repeat(n));
    }

    private void spoil() {
        if (text.length() == 0) {
            return;
        }
        int at = draw.applyAsInt(text.length());
        String signs = "; 0a9sz\n\u00ffA";
        char sign = signs.charAt(draw.applyAsInt(signs.length()));
        switch (draw.applyAsInt(4)) {
            case 0: text.setCharAt(at, sign); break;
            case 1: text.insert(at, sign); break;
            case 2: text.deleteCharAt(at); break;
            default: text.setLength(at);
        }
    }
}
