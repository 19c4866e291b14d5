import java.nio.charset.StandardCharsets;
import java.util.Arrays;

/** What the tests share: answers that are due, setup texts, and what was written. */
final class Check {
    private static int wrong = 0;
    private static int asked = 0;

    /** A call that is expected to throw, or whose answer is compared. */
    interface Call {
        Object answer();
    }

    private Check() {
    }

    static void due(String call, Object got, Object want) {
        asked++;
        if (!got.equals(want)) {
            wrong++;
            if (wrong <= 40) {
                System.out.println((call + " answered " + got + ", due is " + want).replaceAll("[^ -~]", "?"));
            }
        }
    }

    /** The answer of a call, or throws.X with the very class that was thrown. */
    static Object answerOf(Call call) {
        try {
            return call.answer();
        } catch (RuntimeException e) {
            return "throws." + e.getClass().getSimpleName();
        }
    }

    static void dueThrow(String call, Call made, Class<? extends RuntimeException> want) {
        due(call, answerOf(made), "throws." + want.getSimpleName());
    }

    static void noRange(String call, Call made) {
        dueThrow(call, made, IllegalArgumentException.class);
    }

    static void noIndex(String call, Call made) {
        dueThrow(call, made, IndexOutOfBoundsException.class);
    }

    /** Puts the bytes of a text (characters 0 to 255) into the input buffer. */
    static void append(GoldenHeaps heaps, String text) {
        byte[] bytes = Arrays.copyOf(text.getBytes(StandardCharsets.ISO_8859_1), (text.length() + 19) / 20 * 20);
        int before = heaps.appendInput(0, 0, 0, 0, 0) - 20;
        heaps.truncateInput(before);
        for (int i = 0; i < bytes.length; i += 20) {
            heaps.appendInput(four(bytes, i), four(bytes, i + 4), four(bytes, i + 8), four(bytes, i + 12),
                four(bytes, i + 16));
        }
        heaps.truncateInput(before + text.length());
    }

    static int four(byte[] bytes, int at) {
        return (bytes[at] & 255) << 24 | (bytes[at + 1] & 255) << 16 | (bytes[at + 2] & 255) << 8 | bytes[at + 3] & 255;
    }

    static GoldenHeaps loaded(String text) {
        GoldenHeaps heaps = new GoldenHeaps();
        append(heaps, text);
        due("loadHeaps of " + text, heaps.loadHeaps() >= 0, true);
        return heaps;
    }

    static void dueError(String text, int code, int offset) {
        GoldenHeaps heaps = new GoldenHeaps();
        append(heaps, text);
        due("loadHeaps of " + text, heaps.loadHeaps(), -1);
        due("errorCode of " + text, heaps.errorCode(), code);
        due("errorOffset of " + text, heaps.errorOffset(), offset);
        due("rules behind " + text, heaps.count(0), 1);
        due("units behind " + text, heaps.count(11), 13);
    }

    static void dueSameTable(GoldenHeaps heaps, GoldenHeaps other, int rule) {
        for (int place = 0; place < 1681; place++) {
            int x = place / 41;
            int y = place % 41;
            due("value " + x + " " + y, heaps.value(rule, x, y), other.value(rule, x, y));
            due("span " + x + " " + y, heaps.span(rule, x, y), other.span(rule, x, y));
        }
        for (int what = 4; what <= 8; what++) {
            due("rule(" + rule + ", " + what + ")", heaps.rule(rule, what), other.rule(rule, what));
        }
        due("share", heaps.share(rule), other.share(rule));
        due("meanValue", heaps.meanValue(rule), other.meanValue(rule));
    }

    static String output(GoldenHeaps heaps) {
        StringBuilder written = new StringBuilder();
        for (int i = 0; heaps.outputByte(i) >= 0; i++) {
            written.append((char) heaps.outputByte(i));
        }
        return written.toString();
    }

    static String parts(GoldenHeaps heaps) {
        int length = heaps.printParts();
        String written = output(heaps);
        due("printParts of " + written, length, written.length());
        return written;
    }

    static String rule(GoldenHeaps heaps, int rule) {
        int length = heaps.printRule(rule);
        String written = output(heaps);
        due("printRule of " + written, length, written.length());
        return written;
    }

    static void finish(String test) {
        System.out.println(test + ": " + asked + " answers, " + wrong + " not as due");
        if (wrong > 0 || asked == 0) {
            System.exit(1);
        }
    }
}
