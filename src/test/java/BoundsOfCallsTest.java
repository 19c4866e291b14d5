/** Promises 7 to 35 and 43 to 45, and section 3: the ends of each number's range, and what is beyond them. */
final class BoundsOfCallsTest {
    private static final String TEXT = "rule a;rule bcdefghi only 2 40 slack 3 most 9 bar 1 2 bar 0 7;rule c slack 0;"
        + "board a 5 8;board bcdefghi 40 3;stick 7 3;stick 60 9;first 1;";

    private static final int GREATEST = 500000000;

    /** A call with a number of it left open. */
    private interface Asked {
        Object with(int number);
    }

    public static void main(String[] args) {
        countNumbers();
        players();
        turnsKept();
        rulesThereAre();
        rulesByTheirNumber();
        partsThereAre();
        partsByTheirNumber();
        whatIsAsked();
        heaps();
        heapsAndMoves();
        firstListed();
        noSuchOnly();
        noSuchBar();
        noSuchLetter();
        noSuchLosing();
        noneOfAStick();
        noPartner();
        goldenBounds();
        goldenZero();
        eachNumberOnce();
        goldenExactly();
        losingIsGolden();
        goldenManyBounds();
        summandBounds();
        rowOfSummands();
        summandsAlone();
        noneIfNotFree();
        noAdvice();
        noTurnsAhead();
        refusedTotal();
        changedByBothWays();
        anotherSlack();
        meansOfTables();
        wordsOfParts();
        wordsOfARule();
        bytesOfTheOutput();
        constants();
        theLastCall();
        objectsAlone();
        Check.finish("BoundsOfCallsTest");
    }

    /** The ends of a range are answered; one step beyond them, and the ends of int, are out of range. */
    private static void dueRange(String call, int least, int greatest, Asked asked) {
        dueAnswered(call, least, asked);
        dueAnswered(call, greatest, asked);
        int[] beyond = {least - 1, greatest + 1, Integer.MIN_VALUE, Integer.MAX_VALUE};
        for (int n : beyond) {
            Check.noRange(call + " with " + n, () -> asked.with(n));
        }
    }

    /** The numbers from 0 that there are, and the steps beyond them. */
    private static void dueIndex(String call, int many, Asked asked) {
        for (int n = 0; n < many; n++) {
            dueAnswered(call, n, asked);
        }
        int[] beyond = {-1, many, many + 1, 8, 20, Integer.MIN_VALUE, Integer.MAX_VALUE};
        for (int n : beyond) {
            Check.noIndex(call + " with " + n, () -> asked.with(n));
        }
    }

    private static void dueAnswered(String call, int n, Asked asked) {
        String answer = Check.answerOf(() -> asked.with(n)).toString();
        Check.due(call + " with " + n + " throws", answer.startsWith("throws.") ? answer : "nothing", "nothing");
    }

    // ---- what there is

    /** Promise 7: "what: 0 .. 12", "if what is out of range". */
    private static void countNumbers() {
        GoldenHeaps heaps = Check.loaded(TEXT);
        for (int what = 0; what <= 12; what++) {
            dueAnswered("count", what, heaps::count);
        }
        dueRange("count", 0, 12, heaps::count);
    }

    /** Promises 8 and 41: "if there is no such player". */
    private static void players() {
        GoldenHeaps heaps = Check.loaded(TEXT);
        dueIndex("account of player", 2, n -> heaps.account(n, 0));
        dueIndex("again of player", 2, heaps::again);
        dueRange("account(0, ..)", 0, 4, n -> heaps.account(0, n));
        dueRange("account(1, ..)", 0, 4, n -> heaps.account(1, n));
    }

    /** Promise 9: "if there is no such turn", with none, one, and all that can be kept. */
    private static void turnsKept() {
        GoldenHeaps heaps = Check.loaded("rule a;stick 60 1;");
        dueNoTurn(heaps, 0);
        for (int made = 1; made <= 21; made++) {
            heaps.move(0, 1, 0);
            int kept = Math.min(made, 20);
            dueAnswered("the oldest turn", kept - 1, n -> heaps.turn(n, 4));
            dueNoTurn(heaps, kept);
        }
        dueRange("turn(0, ..)", 0, 4, n -> heaps.turn(0, n));
        dueRange("turn(19, ..)", 0, 4, n -> heaps.turn(19, n));
        for (int undone = 1; undone <= 8; undone++) {
            heaps.undo();
        }
        dueNoTurn(heaps, 13);
    }

    private static void dueNoTurn(GoldenHeaps heaps, int index) {
        int[] none = {index, -1, 20, Integer.MAX_VALUE, Integer.MIN_VALUE};
        for (int n : none) {
            Check.noIndex("turn " + n, () -> heaps.turn(n, 0));
        }
    }

    /** "IndexOutOfBoundsException is thrown if there is no such rule": with 1 to 4 rules. */
    private static void rulesThereAre() {
        for (int many = 1; many <= 4; many++) {
            GoldenHeaps heaps = Check.loaded("rule a;rule b;rule c;rule d;".substring(0, 7 * many));
            dueIndex("rule", many, n -> heaps.rule(n, 0));
            dueIndex("ruleLetter", many, n -> heaps.ruleLetter(n, 0));
            dueIndex("value", many, n -> heaps.value(n, 0, 0));
        }
        // Rules of an earlier text are none.
        GoldenHeaps heaps = Check.loaded("rule a;rule b;rule c;rule d;");
        Check.append(heaps, "rule a;");
        heaps.loadHeaps();
        dueIndex("rule behind another load", 1, n -> heaps.rule(n, 0));
    }

    /** The same of each call that has the number of a rule. */
    private static void rulesByTheirNumber() {
        GoldenHeaps heaps = Check.loaded(TEXT);
        dueIndex("rule", 3, n -> heaps.rule(n, 5));
        dueIndex("only", 3, n -> heaps.only(n, 0));
        dueIndex("barred", 3, n -> heaps.barred(n, 0, true));
        dueIndex("ruleLetter", 3, n -> heaps.ruleLetter(n, 0));
        dueIndex("allows", 3, n -> heaps.allows(n, 1, 1));
        dueIndex("value", 3, n -> heaps.value(n, 1, 1));
        dueIndex("span", 3, n -> heaps.span(n, 1, 1));
        dueIndex("losing", 3, n -> heaps.losing(n, 0, true));
        dueIndex("partner", 3, n -> heaps.partner(n, 1));
        dueIndex("gap", 3, heaps::gap);
        dueIndex("changedBy", 3, n -> heaps.changedBy(n, 1, 1));
        dueIndex("losingWith", 3, n -> heaps.losingWith(n, 1));
        dueIndex("share", 3, heaps::share);
        dueIndex("meanValue", 3, heaps::meanValue);
        dueIndex("bar", 3, n -> heaps.bar(n, 1, 1, true));
        dueIndex("setSlack", 3, n -> heaps.setSlack(n, 1));
        dueIndex("setMost", 3, n -> heaps.setMost(n, 1));
        dueIndex("printRule", 3, heaps::printRule);
    }

    /** "if there is no such part": with 0 to 8 parts. */
    private static void partsThereAre() {
        String parts = "board a 1 1;stick 2 2;".repeat(4);
        for (int many = 0; many <= 8; many++) {
            GoldenHeaps heaps = Check.loaded("rule a;" + parts.substring(0, many / 2 * 22 + many % 2 * 12));
            int[] beyond = {-1, many, many + 1, Integer.MIN_VALUE, Integer.MAX_VALUE};
            for (int n : beyond) {
                Check.noIndex("part " + n + " of " + many, () -> heaps.part(n, 0));
                Check.noIndex("move on " + n + " of " + many, () -> heaps.move(n, 1, 0));
            }
            for (int n = 0; n < many; n++) {
                Check.due("kind of " + n, heaps.part(n, 0), n < (many + 1) / 2 ? 0 : 1);
                dueAnswered("move", n, part -> heaps.move(part, 1, 0));
            }
        }
    }

    /** The same of each call that has the number of a part. */
    private static void partsByTheirNumber() {
        GoldenHeaps heaps = Check.loaded(TEXT);
        dueIndex("part", 4, n -> heaps.part(n, 0));
        dueIndex("whyNot", 4, n -> heaps.whyNot(n, 2, 0));
        dueIndex("totalBehind", 4, n -> heaps.totalBehind(n, 2, 0));
        dueIndex("move", 4, n -> heaps.move(n, 2, 0));
    }

    /** "if what is out of range", of rules, of parts and of the advice. */
    private static void whatIsAsked() {
        GoldenHeaps heaps = Check.loaded(TEXT);
        for (int what = 0; what <= 8; what++) {
            dueAnswered("rule(1, ..)", what, n -> heaps.rule(1, n));
            dueAnswered("part(1, ..)", what, n -> heaps.part(1, n));
            dueAnswered("part(3, ..)", what, n -> heaps.part(3, n));
        }
        dueRange("rule(0, ..)", 0, 8, n -> heaps.rule(0, n));
        dueRange("part(0, ..)", 0, 8, n -> heaps.part(0, n));
        dueRange("part(2, ..)", 0, 8, n -> heaps.part(2, n));
        dueRange("advice", 0, 3, heaps::advice);
        dueRange("advice when it is over", 0, 3, n -> Check.loaded("rule a;").advice(n));
    }

    /** "0 to 40", of heaps. */
    private static void heaps() {
        GoldenHeaps heaps = Check.loaded(TEXT);
        for (int rule = 0; rule < 3; rule++) {
            int r = rule;
            dueRange("value(.., x, 40)", 0, 40, n -> heaps.value(r, n, 40));
            dueRange("value(.., 0, y)", 0, 40, n -> heaps.value(r, 0, n));
            dueRange("span(.., x, 40)", 0, 40, n -> heaps.span(r, n, 40));
            dueRange("span(.., 0, y)", 0, 40, n -> heaps.span(r, 0, n));
            dueRange("partner", 0, 40, n -> heaps.partner(r, n));
            dueRange("allows(.., k, 40)", 0, 40, n -> heaps.allows(r, n, 40));
            dueRange("allows(.., 0, l)", 0, 40, n -> heaps.allows(r, 0, n));
        }
    }

    /** "if k or l is out of range, or both are 0", of moves, and the ranges of SLACK, MOST, turns and slots. */
    private static void heapsAndMoves() {
        GoldenHeaps heaps = Check.loaded(TEXT);
        dueRange("changedBy(0, k, 40)", 0, 40, n -> heaps.changedBy(0, n, 40));
        dueRange("changedBy(0, 40, l)", 0, 40, n -> heaps.changedBy(0, 40, n));
        dueRange("changedBy(0, k, 0)", 1, 40, n -> heaps.changedBy(0, n, 0));
        dueRange("changedBy(0, 0, l)", 1, 40, n -> heaps.changedBy(0, 0, n));
        dueRange("bar(0, k, 40)", 0, 40, n -> heaps.bar(0, n, 40, true));
        dueRange("bar(0, 40, l)", 0, 40, n -> heaps.bar(0, 40, n, true));
        dueRange("bar(1, k, 0)", 1, 40, n -> heaps.bar(1, n, 0, false));
        dueRange("bar(1, 0, l)", 1, 40, n -> heaps.bar(1, 0, n, false));
        dueRange("losingWith", 0, 5, n -> heaps.losingWith(0, n));
        dueRange("setSlack", 0, 5, n -> heaps.setSlack(0, n));
        dueRange("setMost", 1, 40, n -> heaps.setMost(0, n));
        dueRange("follow", 1, 600, heaps::follow);
        dueRange("keep", 0, 1, heaps::keep);
        dueRange("bringBack", 0, 1, heaps::bringBack);
    }

    /** "If several exceptions apply to a call, the one that is listed first is thrown." */
    private static void firstListed() {
        GoldenHeaps heaps = Check.loaded(TEXT);
        int[] none = {-1, 4, Integer.MIN_VALUE, Integer.MAX_VALUE};
        for (int n : none) {
            Check.noIndex("account", () -> heaps.account(n, 5));
            Check.noIndex("turn", () -> heaps.turn(n, 5));
            Check.noIndex("rule", () -> heaps.rule(n, 9));
            Check.noIndex("part", () -> heaps.part(n, 9));
            Check.noIndex("allows", () -> heaps.allows(n, 41, -1));
            Check.noIndex("value", () -> heaps.value(n, 41, -1));
            Check.noIndex("span", () -> heaps.span(n, -1, 41));
            Check.noIndex("partner", () -> heaps.partner(n, 41));
            Check.noIndex("changedBy", () -> heaps.changedBy(n, 0, 0));
            Check.noIndex("changedBy", () -> heaps.changedBy(n, 41, 0));
            Check.noIndex("losingWith", () -> heaps.losingWith(n, 6));
            Check.noIndex("bar", () -> heaps.bar(n, 0, 0, true));
            Check.noIndex("bar", () -> heaps.bar(n, 41, 41, true));
            Check.noIndex("setSlack", () -> heaps.setSlack(n, 6));
            Check.noIndex("setMost", () -> heaps.setMost(n, 0));
            Check.noIndex("move", () -> heaps.move(n, 0, 0));
        }
        Check.noRange("bringBack of no slot", () -> heaps.bringBack(2));
        GoldenHeaps full = Check.loaded("rule a bar 1 0 bar 2 0 bar 3 0 bar 4 0;");
        Check.noRange("a 5th bar of 0, 0", () -> full.bar(0, 0, 0, true));
        Check.noRange("a 5th bar of 41, 0", () -> full.bar(0, 41, 0, true));
        Check.noRange("a 5th bar of 0, -1", () -> full.bar(0, 0, -1, true));
        Check.noIndex("a 5th bar of no rule", () -> full.bar(1, 5, 0, true));
        Check.dueThrow("a 5th bar", () -> full.bar(0, 5, 0, true), IllegalStateException.class);
    }

    // ---- NONE

    /** Promise 11: "NONE if there is none such." */
    private static void noSuchOnly() {
        GoldenHeaps heaps = Check.loaded(TEXT);
        int[] none = {-1, 2, 3, 8, Integer.MIN_VALUE, Integer.MAX_VALUE};
        for (int index : none) {
            Check.due("only(1, " + index + ")", heaps.only(1, index), -1);
        }
        Check.due("the smallest one", heaps.only(1, 0), 2);
        Check.due("the greatest one", heaps.only(1, 1), 40);
        Check.due("no ONLY", heaps.only(0, 0), -1);
    }

    /** Promise 12: "NONE if there is no such move." */
    private static void noSuchBar() {
        GoldenHeaps heaps = Check.loaded(TEXT);
        int[] none = {-1, 2, 3, 4, 5, Integer.MIN_VALUE, Integer.MAX_VALUE};
        for (int index : none) {
            Check.due("k of " + index, heaps.barred(1, index, false), -1);
            Check.due("l of " + index, heaps.barred(1, index, true), -1);
        }
        Check.due("k of the first one", heaps.barred(1, 0, false), 1);
        Check.due("l of the first one", heaps.barred(1, 0, true), 2);
        Check.due("a k of 0", heaps.barred(1, 1, false), 0);
        Check.due("its l", heaps.barred(1, 1, true), 7);
        Check.due("no bars", heaps.barred(0, 0, false), -1);
        heaps.bar(1, 40, 40, true);
        heaps.bar(1, 40, 0, true);
        Check.due("the 4th one", heaps.barred(1, 3, false), 40);
        Check.due("the 4th one", heaps.barred(1, 3, true), 0);
        Check.due("no 5th one", heaps.barred(1, 4, true), -1);
        heaps.bar(1, 40, 0, false);
        Check.due("no 4th one now", heaps.barred(1, 3, true), -1);
    }

    /** Promise 13: "0 if there is no such letter." */
    private static void noSuchLetter() {
        GoldenHeaps heaps = Check.loaded(TEXT);
        Check.due("the only letter", heaps.ruleLetter(0, 0), 1);
        Check.due("the 8th letter", heaps.ruleLetter(1, 7), 9);
        int[] none = {-1, 1, 7, 8, 9, 12, 13, 64, Integer.MIN_VALUE, Integer.MAX_VALUE};
        for (int index : none) {
            Check.due("letter " + index, heaps.ruleLetter(0, index), 0);
            Check.due("letter " + index, heaps.ruleLetter(1, index), index == 1 ? 3 : index == 7 ? 9 : 0);
        }
        GoldenHeaps ends = Check.loaded("rule zaaaaaaz;");
        Check.due("z", ends.ruleLetter(0, 0), 26);
        Check.due("a", ends.ruleLetter(0, 6), 1);
        Check.due("z", ends.ruleLetter(0, 7), 26);
    }

    /** Promise 19: "NONE if there is none such." */
    private static void noSuchLosing() {
        GoldenHeaps heaps = Check.loaded("rule a;rule all only 1 slack 0 most 1 bar 1 0 bar 0 1;");
        int[] many = {31, 1681};
        for (int rule = 0; rule < 2; rule++) {
            Check.due("losing positions", heaps.rule(rule, 6), many[rule]);
            Check.due("the last one", heaps.losing(rule, many[rule] - 1, false) >= 39, true);
            int[] none = {many[rule], many[rule] + 1, -1, Integer.MIN_VALUE, Integer.MAX_VALUE};
            for (int index : none) {
                Check.due("x of " + index, heaps.losing(rule, index, false), -1);
                Check.due("y of " + index, heaps.losing(rule, index, true), -1);
            }
        }
    }

    /** Promise 14: "NONE of a stick". */
    private static void noneOfAStick() {
        GoldenHeaps heaps = Check.loaded("rule a;board a 0 0;stick 0 1;");
        Check.due("the second heap", heaps.part(0, 3), 0);
        Check.due("the second heap told", heaps.part(0, 8), 0);
        Check.due("of a stick", heaps.part(1, 3), -1);
        Check.due("of a stick, told", heaps.part(1, 8), -1);
        Check.due("LENGTH told", heaps.part(1, 7), 0);
    }

    /** Promise 20: "Returns the second heap, 0 to 40; NONE if there is none." */
    private static void noPartner() {
        GoldenHeaps heaps = Check.loaded("rule a;rule nim slack 0;rule none only 40 slack 0;");
        Check.due("0", heaps.partner(0, 0), 0);
        Check.due("40 has none", heaps.partner(0, 40), -1);
        Check.due("the greatest one", heaps.partner(1, 40), 40);
        Check.due("the smallest of 40", heaps.partner(2, 39), 0);
        Check.due("40 alone", heaps.partner(2, 40), 40);
    }

    // ---- golden rows

    /** Promises 21 to 26: the ranges of slack, n, v and most. */
    private static void goldenBounds() {
        GoldenHeaps heaps = new GoldenHeaps();
        dueRange("golden slack", 1, 5, n -> heaps.golden(n, 100000000, true));
        dueRange("golden n", 0, 100000000, n -> heaps.golden(5, n, true));
        dueRange("golden n", 0, 100000000, n -> heaps.golden(1, n, false));
        dueRange("goldenOf slack", 1, 5, n -> heaps.goldenOf(n, GREATEST));
        dueRange("goldenOf v", 1, GREATEST, n -> heaps.goldenOf(1, n));
        dueRange("goldenPartner slack", 1, 5, n -> heaps.goldenPartner(n, GREATEST));
        dueRange("goldenPartner v", 1, GREATEST, n -> heaps.goldenPartner(5, n));
        dueRange("goldenMany slack", 1, 5, n -> heaps.goldenMany(n, GREATEST));
        dueRange("goldenMany most", 0, GREATEST, n -> heaps.goldenMany(5, n));
        dueRange("summand", 1, GREATEST, n -> heaps.summand(n, 0));
        dueRange("leastPlace", 1, GREATEST, heaps::leastPlace);
    }

    /** Section 3: "A(0) and B(0) are 0"; and the first pair. */
    private static void goldenZero() {
        GoldenHeaps heaps = new GoldenHeaps();
        for (int slack = 1; slack <= 5; slack++) {
            Check.due("A(0)", heaps.golden(slack, 0, false), 0);
            Check.due("B(0)", heaps.golden(slack, 0, true), 0);
            Check.due("A(1)", heaps.golden(slack, 1, false), 1);
            Check.due("B(1)", heaps.golden(slack, 1, true), slack + 1);
            Check.due("goldenOf 1", heaps.goldenOf(slack, 1), 2);
            Check.due("goldenOf B(1)", heaps.goldenOf(slack, slack + 1), 3);
            Check.due("goldenPartner 1", heaps.goldenPartner(slack, 1), slack + 1L);
            Check.due("goldenPartner B(1)", heaps.goldenPartner(slack, slack + 1), 1L);
        }
    }

    /** "each number above 0 is in one of the rows, once": at both ends of what can be looked up. */
    private static void eachNumberOnce() {
        for (int slack = 1; slack <= 5; slack++) {
            GoldenHeaps heaps = new GoldenHeaps();
            Model model = new Model();
            for (int step = 0; step < 80; step++) {
                int v = step < 40 ? step + 1 : GREATEST - (step - 40);
                int found = heaps.goldenOf(slack, v);
                long partner = heaps.goldenPartner(slack, v);
                boolean isSecond = found % 2 == 1;
                Check.due("n of " + v, Model.number(slack, found / 2, isSecond), (long) v);
                Check.due("partner of " + v, partner, Model.number(slack, found / 2, !isSecond));
                Check.due("goldenOf " + v, found, model.goldenOf(slack, v));
                if (partner <= GREATEST) {
                    Check.due("partner of the partner", heaps.goldenPartner(slack, (int) partner), (long) v);
                }
            }
        }
    }

    /** "rounded down (exactly, however great n is)". */
    private static void goldenExactly() {
        for (int slack = 1; slack <= 5; slack++) {
            GoldenHeaps heaps = new GoldenHeaps();
            for (int n = 100000000; n > 99999900; n--) {
                Check.due("A(" + n + ")", heaps.golden(slack, n, false), (int) Model.number(slack, n, false));
                Check.due("B(" + n + ")", heaps.golden(slack, n, true), (int) Model.number(slack, n, true));
            }
        }
        // With SLACK 1 the fractions are smallest and greatest at the numbers of the row of summands.
        GoldenHeaps heaps = new GoldenHeaps();
        int ahead = 1;
        for (int n = 2; n <= 63245986; n += ahead, ahead = n - ahead) {
            Check.due("A(" + n + ")", heaps.golden(1, n, false), (int) Model.number(1, n, false));
            Check.due("A(" + (n - 1) + ")", heaps.golden(1, n - 1, false), (int) Model.number(1, n - 1, false));
            Check.due("A(" + (n + 1) + ")", heaps.golden(1, n + 1, false), (int) Model.number(1, n + 1, false));
        }
    }

    /** "By a free rule .. a position is losing exactly if its numbers are A(n) and B(n), in whichever order." */
    private static void losingIsGolden() {
        for (int slack = 1; slack <= 5; slack++) {
            GoldenHeaps heaps = Check.loaded("rule a slack " + slack + ";");
            int many = heaps.goldenMany(slack, 40);
            Check.due("losing positions with SLACK " + slack, heaps.rule(0, 6), 1 + 2 * many);
            for (int n = 0; n <= many; n++) {
                int a = heaps.golden(slack, n, false);
                int b = heaps.golden(slack, n, true);
                Check.due("A and B", heaps.value(0, a, b), 0);
                Check.due("B and A", heaps.value(0, b, a), 0);
            }
            Check.due("the next B is beyond the table", heaps.golden(slack, many + 1, true) > 40, true);
        }
    }

    /** Promise 24: "how many n above 0 have B(n) of at most this." */
    private static void goldenManyBounds() {
        GoldenHeaps heaps = new GoldenHeaps();
        for (int slack = 1; slack <= 5; slack++) {
            Check.due("at most 0", heaps.goldenMany(slack, 0), 0);
            Check.due("one below B(1)", heaps.goldenMany(slack, slack), 0);
            Check.due("B(1)", heaps.goldenMany(slack, slack + 1), 1);
            int all = heaps.goldenMany(slack, GREATEST);
            Check.due("the last B within", Model.number(slack, all, true) <= GREATEST, true);
            Check.due("the first B beyond", Model.number(slack, all + 1, true) > GREATEST, true);
            int last = (int) Model.number(slack, all, true);
            Check.due("just it", heaps.goldenMany(slack, last), all);
            Check.due("one below it", heaps.goldenMany(slack, last - 1), all - 1);
        }
    }

    /** Promise 25: "0 for the greatest one", "NONE if there is none such." */
    private static void summandBounds() {
        GoldenHeaps heaps = new GoldenHeaps();
        int[] none = {-1, Integer.MIN_VALUE, Integer.MAX_VALUE, 21, 42};
        for (int index : none) {
            Check.due("summand(1, " + index + ")", heaps.summand(1, index), -1);
            Check.due("summand(433494436, " + index + ")", heaps.summand(433494436, index), -1);
            Check.due("summand(500000000, " + index + ")", heaps.summand(GREATEST, index), -1);
        }
        Check.due("of 1", heaps.summand(1, 0), 1);
        Check.due("of 1", heaps.summand(1, 1), -1);
        // 2 + 5 + .. + 267914296, the most summands that there are: each second number of the row.
        Check.due("the 21st", heaps.summand(433494436, 20), 1);
        Check.due("the 20th", heaps.summand(433494436, 19), 3);
    }

    /** "the numbers 1, 2, 3, 5, 8, 13 and so on (each one the sum of the two ahead of it)"; "0 for 1". */
    private static void rowOfSummands() {
        GoldenHeaps heaps = new GoldenHeaps();
        int ahead = 1;
        int number = 1;
        for (int place = 0; place <= 41; place++) {
            Check.due("a number of the row", heaps.summand(number, 0), number);
            Check.due("it is its only summand", heaps.summand(number, 1), -1);
            Check.due("place of " + number, heaps.leastPlace(number), place);
            number += ahead;
            ahead = number - ahead;
        }
        Check.due("the next one is beyond the range", number > GREATEST, true);
    }

    /** "a sum of different ones of the numbers 1, 2, 3, 5, .., no two of which are next to each other in this row". */
    private static void summandsAlone() {
        int[] numbers = {1, 2, 3, 4, 5, 6, 7, 11, 12, 20, 33, 54, 88, 143, 1000, 433494436, 433494437, 433494438,
            499999999, GREATEST};
        for (int v : numbers) {
            GoldenHeaps heaps = new GoldenHeaps();
            int rest = v;
            int before = Integer.MAX_VALUE;
            int least = 0;
            for (int index = 0; heaps.summand(v, index) != -1; index++) {
                int summand = heaps.summand(v, index);
                Check.due("a number of the row: " + summand, heaps.summand(summand, 0), summand);
                // The number of the row that is next to s is at most 2 * s.
                Check.due("not next to each other in " + v, summand < before - summand, true);
                before = summand;
                rest -= summand;
                least = heaps.leastPlace(summand);
            }
            Check.due("the rest of " + v, rest, 0);
            Check.due("leastPlace of " + v, heaps.leastPlace(v), least);
            Check.due("row A of " + v, heaps.leastPlace(v) % 2 == 0, heaps.goldenOf(1, v) % 2 == 0);
        }
    }

    /** Promise 27: "NONE if the rule is not free." */
    private static void noneIfNotFree() {
        GoldenHeaps heaps = Check.loaded(TEXT);
        Check.due("a free rule", heaps.gap(0), 0);
        Check.due("with ONLY", heaps.gap(1), -1);
        Check.due("with SLACK 0", heaps.gap(2), -1);
        heaps.setSlack(2, 1);
        Check.due("free now", heaps.gap(2), 0);
        heaps.bar(2, 40, 1, true);
        Check.due("free no more, though no move is less", heaps.gap(2), -1);
        heaps.undo();
        Check.due("free again", heaps.gap(2), 0);
    }

    // ---- what is ahead

    /** Promise 28: "NONE if the game is over." */
    private static void noAdvice() {
        String[] over = {"rule a;", "rule a;board a 0 0;", "rule a;stick 0 9;",
            "rule a only 40 slack 0;board a 39 39;"};
        for (String text : over) {
            GoldenHeaps heaps = Check.loaded(text);
            for (int what = 0; what <= 3; what++) {
                Check.due("advice(" + what + ") of " + text, heaps.advice(what), -1);
            }
        }
        GoldenHeaps heaps = Check.loaded("rule a;stick 1 1;");
        Check.due("not over", heaps.advice(3), 1);
        heaps.move(0, 1, 0);
        Check.due("over", heaps.advice(3), -1);
    }

    /** Promises 29 and 30: "the one who has not the turn if the game is over." */
    private static void noTurnsAhead() {
        for (int first = 0; first <= 1; first++) {
            GoldenHeaps heaps = Check.loaded("rule a;board a 0 0;first " + first + ";");
            Check.due("turns", heaps.turnsIn(), 0);
            Check.due("the other player", heaps.winner(), 1 - first);
            GoldenHeaps one = Check.loaded("rule a;stick 1 1;first " + first + ";");
            Check.due("one turn", one.turnsIn(), 1);
            Check.due("its player", one.winner(), first);
            one.follow(1);
            Check.due("behind it", one.turnsIn(), 0);
            Check.due("still this player", one.winner(), first);
        }
        // The most turns that there can be: each takes one unit of 4 * 80 and 4 * 60.
        String parts = "board a 40 40;".repeat(4) + "stick 60 1;".repeat(4);
        GoldenHeaps most = Check.loaded("rule a only 1 slack 0 most 1;" + parts);
        Check.due("turns", most.turnsIn(), 560);
        Check.due("the last player", most.winner(), 1);
        Check.due("they can be followed", most.follow(600), 560);
    }

    /** Promise 31: "NONE if the move is refused." */
    private static void refusedTotal() {
        GoldenHeaps heaps = Check.loaded("rule a only 1 2 slack 2 most 9 bar 1 1;board a 12 12;stick 8 5;");
        int[][] refused = {{0, 0, 0}, {0, -1, 0}, {0, 13, 12}, {0, 10, 10}, {0, 3, 0}, {0, 4, 2}, {0, 1, 1}, {1, 0, 0},
            {1, 0, -1}, {1, 9, 0}, {1, 1, 1}, {1, 6, 0}, {1, Integer.MAX_VALUE, 0}, {0, Integer.MIN_VALUE, 0}};
        for (int[] move : refused) {
            String told = move[0] + " " + move[1] + " " + move[2];
            Check.due("totalBehind " + told, heaps.totalBehind(move[0], move[1], move[2]), -1);
        }
        Check.due("TOTAL of 0 is no NONE", Check.loaded("rule a;stick 1 1;").totalBehind(0, 1, 0), 0);
        int behind = heaps.totalBehind(0, 9, 9);
        Check.due("as the move tells then", heaps.move(0, 9, 9), behind);
    }

    /** Promise 32: "if a move was barred by a rule (if it is barred: if it was not)", with a 5th bar, too. */
    private static void changedByBothWays() {
        String text = "rule a;rule full bar 1 0 bar 2 0 bar 3 0 bar 4 0;rule one only 1 slack 0;"
            + "rule no only 1 slack 0 bar 1 0;";
        GoldenHeaps heaps = Check.loaded(text);
        Model model = new Model();
        model.appendText(text);
        model.truncateInput(text.length());
        Check.due("the model's parts", model.loadHeaps(), 0);
        int[][] moves = {{0, 1, 0}, {0, 0, 1}, {0, 40, 40}, {0, 0, 40}, {0, 40, 0}, {1, 1, 0}, {1, 4, 0},
            {1, 5, 0}, {1, 1, 1}, {2, 1, 0}, {2, 0, 1}, {2, 2, 0}, {3, 1, 0}, {3, 0, 1}};
        String before = Whole.of(heaps);
        for (int[] move : moves) {
            String told = "changedBy " + move[0] + " " + move[1] + " " + move[2];
            Check.due(told, heaps.changedBy(move[0], move[1], move[2]), model.changedBy(move[0], move[1], move[2]));
        }
        Check.due("a move that is refused anyway", heaps.changedBy(0, 1, 2), 0);
        Check.due("nothing is barred by asking", Whole.of(heaps), before);
        // With 0, 1 alone the even y are losing, 21 of 41; with 1, 0, too, those with an even sum.
        Check.due("0, 1 is left", heaps.changedBy(2, 1, 0), 20 * 41);
        Check.due("none is left", heaps.changedBy(3, 0, 1), 20 * 41);
        Check.due("both again", heaps.changedBy(3, 1, 0), 20 * 41);
    }

    /** Promise 33: "would be losing with another SLACK", 0 to 5, its own among them. */
    private static void anotherSlack() {
        GoldenHeaps heaps = Check.loaded("rule a;rule few only 1 slack 0 most 1;");
        String before = Whole.of(heaps);
        Check.due("SLACK 0", heaps.losingWith(0, 0), 41);
        for (int slack = 1; slack <= 5; slack++) {
            Check.due("SLACK " + slack, heaps.losingWith(0, slack), 1 + 2 * heaps.goldenMany(slack, 40));
        }
        Check.due("its own SLACK", heaps.losingWith(0, 1), heaps.rule(0, 6));
        Check.due("its own SLACK", heaps.losingWith(1, 0), heaps.rule(1, 6));
        Check.due("SLACK 5 with MOST 1", heaps.losingWith(1, 5), heaps.losingWith(1, 1));
        Check.due("SLACK stays", Whole.of(heaps), before);
    }

    /** Promises 34 and 35: the quotients by 1681, at their ends. */
    private static void meansOfTables() {
        GoldenHeaps heaps = Check.loaded("rule all only 1 slack 0 most 1 bar 1 0 bar 0 1;rule nim slack 0;"
            + "rule last only 40 slack 0 bar 0 40;");
        Check.due("all are losing", heaps.share(0), 1.0f);
        Check.due("all VALUES are 0", heaps.meanValue(0), 0.0);
        Check.due("the equal heaps", heaps.share(1), 41f / 1681f);
        int sum = 0;
        for (int place = 0; place < 1681; place++) {
            sum += place / 41 ^ place % 41;
        }
        Check.due("the mean of nim", heaps.meanValue(1), (double) sum / 1681.0);
        Check.due("all but x of 40", heaps.share(2), 1640f / 1681f);
        Check.due("x of 40 has VALUE 1", heaps.meanValue(2), 41.0 / 1681.0);
    }

    // ---- output

    /** Promise 43: "with a space between two"; none ahead, behind, or without parts. */
    private static void wordsOfParts() {
        Check.due("no parts", Check.parts(Check.loaded("rule a;")), "");
        Check.due("one part", Check.parts(Check.loaded("rule a;stick 10 9;")), "10/9");
        Check.due("two parts", Check.parts(Check.loaded("rule a;board a 9 10;stick 0 1;")), "a:9,10 0/1");
        String parts = "board abcdefgh 40 40;".repeat(4) + "stick 60 9;".repeat(4);
        GoldenHeaps longest = Check.loaded("rule abcdefgh;" + parts);
        Check.due("the longest one", Check.parts(longest),
            "abcdefgh:40,40 abcdefgh:40,40 abcdefgh:40,40 abcdefgh:40,40 60/9 60/9 60/9 60/9");
    }

    /** Promise 44: "only with its numbers, ascending (if it has ONLY)"; "for each barred move, in their order". */
    private static void wordsOfARule() {
        String behind = " slack 5 most 40 bar 40 39 bar 39 40 bar 0 10 bar 10 0";
        String longest = "rule abcdefgh only 10 20 31 32 33 34 39 40" + behind;
        String told = "rule abcdefgh only 40 39 34 33 32 31 20 10" + behind;
        GoldenHeaps heaps = Check.loaded(told + ";rule z slack 0 most 1;");
        Check.due("the longest one", Check.rule(heaps, 0), longest);
        Check.due("the shortest one", Check.rule(heaps, 1), "rule z slack 0 most 1");
        Check.due("it is a statement", Check.rule(Check.loaded(longest + ";"), 0), longest);
        Check.noIndex("no such rule", () -> heaps.printRule(2));
        Check.due("the output stays", Check.output(heaps), "rule z slack 0 most 1");
    }

    /** Promise 45: "Returns the byte; -1 if there is no such byte.", "in place of what it had". */
    private static void bytesOfTheOutput() {
        GoldenHeaps heaps = new GoldenHeaps();
        int[] none = {-1, 0, 1, 255, 256, Integer.MIN_VALUE, Integer.MAX_VALUE};
        for (int index : none) {
            Check.due("nothing was written: " + index, heaps.outputByte(index), -1);
        }
        Check.due("written", heaps.printParts(), 9);
        Check.due("the first byte", heaps.outputByte(0), (int) 'p');
        Check.due("the last byte", heaps.outputByte(8), (int) '8');
        Check.due("written", heaps.printRule(0), 26);
        Check.due("the last byte", heaps.outputByte(25), (int) '0');
        Check.due("written", heaps.printParts(), 9);
        int[] beyond = {-1, 9, 10, 25, 26, 256, Integer.MIN_VALUE, Integer.MAX_VALUE};
        for (int index : beyond) {
            Check.due("byte " + index, heaps.outputByte(index), -1);
        }
    }

    // ---- the object

    /** "The constants". */
    private static void constants() {
        int[] told = {GoldenHeaps.NONE, GoldenHeaps.NO_ERROR, GoldenHeaps.SYNTAX, GoldenHeaps.OUT_OF_RANGE,
            GoldenHeaps.UNKNOWN, GoldenHeaps.REPEATED, GoldenHeaps.TOO_MANY};
        for (int i = 0; i < told.length; i++) {
            Check.due("constant " + i, told[i], i - 1);
        }
    }

    /** "An object is used for at most 512 calls": the last one is answered as the first. */
    private static void theLastCall() {
        GoldenHeaps heaps = new GoldenHeaps();
        for (int call = 1; call <= 510; call += 2) {
            Check.due("call " + call, heaps.move(0, 1, 1), 0);
            Check.due("call " + (call + 1), heaps.undo(), 0);
        }
        Check.due("call 511", heaps.follow(600), 5);
        Check.due("call 512", heaps.account(0, 0), 3);
    }

    /** An object knows nothing of another one: what is done with one changes no answer of the other. */
    private static void objectsAlone() {
        GoldenHeaps heaps = Check.loaded(TEXT);
        heaps.move(0, 1, 1);
        heaps.keep(0);
        heaps.printParts();
        Check.append(heaps, "rule");
        String before = Whole.of(heaps);
        GoldenHeaps other = Check.loaded("rule z slack 0;board z 3 3;stick 9 9;");
        other.setSlack(0, 5);
        other.follow(600);
        other.keep(1);
        other.printRule(0);
        Check.append(other, "rule z");
        other.loadHeaps();
        other.changedBy(0, 1, 1);
        Check.due("all of the first one", Whole.of(heaps), before);
        Check.due("its snapshot", heaps.bringBack(0), 1);
        Check.dueThrow("no other one", () -> heaps.bringBack(1), java.util.NoSuchElementException.class);
    }
}
