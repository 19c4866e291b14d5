/** Setup texts for random runs. */
final class Texts {
    private static final String[] NAMES = {"a", "rule", "only", "abcdefgh", "bar", "zz", "first", "most"};

    private final Dice dice;

    Texts(Dice dice) {
        this.dice = dice;
    }

    /** A text of up to 600 bytes; half of the texts are spoilt somewhere. */
    String next() {
        StringBuilder text = new StringBuilder();
        int rules = dice.from(1, dice.once(8) ? 5 : 4);
        int board = 0;
        for (int i = 0; i < rules; i++) {
            rule(text, i);
            for (int n = dice.below(3); n > 0; n--) {
                text.append("board ").append(NAMES[dice.once(20) ? dice.below(8) : dice.below(i + 1)]).append(' ');
                text.append(heap()).append(' ').append(heap()).append(';');
                board++;
            }
            if (dice.once(2)) {
                text.append("stick ").append(dice.once(2) ? dice.below(6) : dice.from(0, 60)).append(' ');
                text.append(dice.from(1, 9)).append(';');
            }
        }
        if (board == 0) {
            text.append("board a 4 ").append(heap()).append(";\n");
        }
        if (dice.once(2)) {
            text.append(" first ").append(dice.below(2)).append(';');
        }
        return spoilt(text);
    }

    private int heap() {
        return dice.once(3) ? dice.from(0, 40) : dice.below(8);
    }

    private void rule(StringBuilder text, int i) {
        text.append("rule ").append(NAMES[i]);
        if (dice.once(3)) {
            text.append(" only");
            int step = dice.from(1, 4);
            int n = 0;
            for (int many = dice.from(1, 9); many > 0; many--) {
                n += dice.from(1, step);
                text.append(' ').append(n);
            }
        }
        if (dice.once(2)) {
            text.append(" slack ").append(dice.below(6));
        }
        if (dice.once(3)) {
            text.append("\nmost ").append(dice.from(1, 40));
        }
        for (int bars = dice.once(2) ? 0 : dice.below(6); bars > 0; bars--) {
            text.append(" bar ").append(dice.below(dice.once(9) ? 41 : 4)).append(' ').append(dice.below(4));
        }
        text.append(" ;".substring(dice.below(2)));
    }

    /** Half of the texts get some wrong bytes, words or numbers. */
    private String spoilt(StringBuilder text) {
        String[] words = {" ", "\n", ";", "#", "0", "41", "1000", "007", "rule ", "board ", "stick ", "first ", " bar ",
            " only ", " slack ", " most ", "abcdefghi", "A", "\u00e9", "5", "\u0000", "rule q;", "stick 1 1;", "first 0;"};
        for (int faults = dice.once(2) ? 0 : dice.from(1, 2); faults > 0; faults--) {
            int at = dice.below(text.length());
            if (dice.once(3)) {
                text.delete(at, Math.min(text.length(), at + dice.from(1, 6)));
            } else {
                text.insert(at, words[dice.below(words.length)]);
            }
            if (text.length() == 0) {
                text.append(' ');
            }
        }
        if (dice.once(20)) {
            text.setLength(dice.below(text.length()));
        }
        return text.length() > 600 ? text.substring(0, 600) : text.toString();
    }
}
