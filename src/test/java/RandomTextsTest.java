import java.util.Arrays;

/** Setup texts, chosen by a fixed row of numbers, read by the program and by the model. */
final class RandomTextsTest {
    private static final int TEXTS = 6000;

    private static final int[] CODES = new int[6];

    public static void main(String[] args) {
        Texts texts = new Texts(new Dice(77));
        GoldenHeaps heaps = new GoldenHeaps();
        Model model = new Model();
        for (int i = 0; i < TEXTS; i++) {
            compare(texts.next(), heaps, model);
        }
        System.out.println("texts by error code: " + Arrays.toString(CODES));
        for (int code = 0; code < CODES.length; code++) {
            Check.due("texts with error code " + code, CODES[code] >= 50, true);
        }
        Check.finish("RandomTextsTest");
    }

    private static void compare(String text, GoldenHeaps heaps, Model model) {
        Check.append(heaps, text);
        model.appendText(text);
        model.truncateInput(text.length());
        Check.due("loadHeaps of " + text, heaps.loadHeaps(), model.loadHeaps());
        Check.due("errorCode of " + text, heaps.errorCode(), model.errorCode());
        Check.due("errorOffset of " + text, heaps.errorOffset(), model.errorOffset());
        Check.due("printParts behind " + text, heaps.printParts(), model.printParts());
        dueOutput(text, heaps, model);
        for (int what : new int[] {0, 1, 2, 3, 11}) {
            Check.due("count(" + what + ") behind " + text, heaps.count(what), model.count(what));
        }
        for (int rule = 0; rule < heaps.count(0); rule++) {
            Check.due("printRule behind " + text, heaps.printRule(rule), model.printRule(rule));
            dueOutput(text, heaps, model);
        }
        CODES[heaps.errorCode()]++;
    }

    private static void dueOutput(String text, GoldenHeaps heaps, Model model) {
        String written = Check.output(heaps);
        for (int index = 0; index <= written.length(); index++) {
            Check.due("byte " + index + " behind " + text, heaps.outputByte(index), model.outputByte(index));
        }
    }
}
