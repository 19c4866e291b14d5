/** All that calls tell of an object, as a text: two moments are compared by it. Nothing is changed by asking. */
final class Whole {
    private Whole() {
    }

    /** Everything but the tables and what snapshots and undone changes would bring. */
    static String of(GoldenHeaps heaps) {
        return "input " + inputLength(heaps) + ", error " + heaps.errorCode() + " at " + heaps.errorOffset()
            + ", output " + Check.output(heaps) + ", changes " + heaps.count(10) + ", " + kept(heaps);
    }

    /** What undo and snapshots bring back: rules, parts, players, accounts and turns. */
    static String kept(GoldenHeaps heaps) {
        StringBuilder text = new StringBuilder();
        for (int what = 0; what <= 12; what++) {
            if (what != 10) {
                text.append(heaps.count(what)).append(' ');
            }
        }
        for (int rule = 0; rule < heaps.count(0); rule++) {
            rule(text.append("| rule "), heaps, rule);
        }
        for (int part = 0; part < heaps.count(1) + heaps.count(2); part++) {
            text.append("| part ");
            for (int what = 0; what <= 8; what++) {
                text.append(heaps.part(part, what)).append(' ');
            }
        }
        accounts(text.append("| accounts "), heaps);
        turns(text.append("| turns "), heaps);
        return text.toString();
    }

    /** The bytes in the input buffer: cutting it to its own length changes nothing. */
    static int inputLength(GoldenHeaps heaps) {
        int length = 600;
        while (!heaps.truncateInput(length)) {
            length--;
        }
        return length;
    }

    private static void rule(StringBuilder text, GoldenHeaps heaps, int rule) {
        for (int index = 0; heaps.ruleLetter(rule, index) > 0; index++) {
            text.append((char) ('a' + heaps.ruleLetter(rule, index) - 1));
        }
        for (int what = 0; what <= 8; what++) {
            text.append(' ').append(heaps.rule(rule, what));
        }
        for (int index = 0; heaps.only(rule, index) > 0; index++) {
            text.append(" only ").append(heaps.only(rule, index));
        }
        for (int index = 0; heaps.barred(rule, index, false) >= 0; index++) {
            text.append(" bar ").append(heaps.barred(rule, index, false));
            text.append(' ').append(heaps.barred(rule, index, true));
        }
        text.append(' ');
    }

    private static void accounts(StringBuilder text, GoldenHeaps heaps) {
        for (int account = 0; account < 10; account++) {
            text.append(heaps.account(account / 5, account % 5)).append(' ');
        }
    }

    private static void turns(StringBuilder text, GoldenHeaps heaps) {
        for (int index = 0; index < heaps.count(12); index++) {
            for (int what = 0; what < 5; what++) {
                text.append(heaps.turn(index, what)).append(what < 4 ? ' ' : ';');
            }
        }
    }
}
