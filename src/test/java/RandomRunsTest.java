/** Runs of calls on the program and on the model, chosen by a fixed row of numbers, each answer compared. */
final class RandomRunsTest {
    private static final int RUNS = 200;
    private static final int CALLS = 512;

    private final Dice dice;
    private final Texts texts;
    private final GoldenHeaps heaps = new GoldenHeaps();
    private final Model model = new Model();
    private int made = 0;

    private RandomRunsTest(Dice dice) {
        this.dice = dice;
        this.texts = new Texts(dice);
    }

    public static void main(String[] args) {
        for (int run = 0; run < RUNS; run++) {
            new RandomRunsTest(new Dice(run)).run(run);
        }
        Check.finish("RandomRunsTest");
    }

    private void run(int run) {
        boolean isLoaded = run % 8 == 0;
        for (int tries = 0; tries < 10 && !isLoaded; tries++) {
            load(texts.next());
            isLoaded = heaps.errorCode() == GoldenHeaps.NO_ERROR;
        }
        while (made < CALLS) {
            call(run);
        }
    }

    private void same(String call, Check.Call program, Check.Call due) {
        made++;
        Check.due("call " + made + ": " + call, Check.answerOf(program), Check.answerOf(due));
    }

    // ---- setup texts

    private void load(String text) {
        Check.append(heaps, text);
        model.appendText(text);
        same("truncateInput", () -> heaps.truncateInput(text.length()), () -> model.truncateInput(text.length()));
        same("loadHeaps of " + text, heaps::loadHeaps, model::loadHeaps);
        same("errorCode of " + text, heaps::errorCode, model::errorCode);
        same("errorOffset of " + text, heaps::errorOffset, model::errorOffset);
        made += text.length() / 20 + 5;
    }

    // ---- calls

    private int rule() {
        return dice.once(12) ? dice.from(-1, 4) : dice.below(heaps.count(0));
    }

    private int part() {
        int parts = heaps.count(1) + heaps.count(2);
        return parts == 0 || dice.once(12) ? dice.from(-1, 8) : dice.below(parts);
    }

    private int side() {
        return dice.once(25) ? (dice.once(2) ? -1 : 41) : dice.once(2) ? dice.below(5) : dice.from(0, 40);
    }

    private int units() {
        int[] odd = {-1, 41, 61, Integer.MAX_VALUE, Integer.MIN_VALUE};
        return dice.once(20) ? odd[dice.below(5)] : dice.once(3) ? dice.from(0, 40) : dice.below(4);
    }

    private void call(int run) {
        int kind = dice.below(30);
        if (kind < 8) {
            change(run);
        } else if (kind < 14) {
            askMix();
        } else if (kind < 22) {
            askRule();
        } else if (kind < 24) {
            askGolden();
        } else if (kind < 27) {
            askTurns();
        } else {
            askRest();
        }
    }

    private void change(int run) {
        int r = rule();
        int p = part();
        int k = units();
        int l = units();
        int x = side();
        int y = side();
        boolean is = !dice.once(3);
        int few = dice.from(0, 3);
        int slack = dice.from(-1, 6);
        int most = dice.from(0, 41);
        int who = dice.once(12) ? dice.from(-1, 2) : dice.below(2);
        switch (dice.below(run % 3 == 0 ? 14 : 12)) {
            case 0, 1, 2 -> same("move " + p + " " + k + " " + l, () -> heaps.move(p, k, l), () -> model.move(p, k, l));
            case 3, 4 -> {
                int q = heaps.advice(0);
                same("move as advised", () -> heaps.move(q, heaps.advice(1), heaps.advice(2)),
                    () -> model.move(q, model.advice(1), model.advice(2)));
            }
            case 5 -> same("follow " + few, () -> heaps.follow(few), () -> model.follow(few));
            case 6 -> same("bar " + r + " " + x + " " + y, () -> heaps.bar(r, x, y, is), () -> model.bar(r, x, y, is));
            case 7 -> same("setSlack " + r + " " + slack, () -> heaps.setSlack(r, slack), () -> model.setSlack(r, slack));
            case 8 -> same("setMost " + r + " " + most, () -> heaps.setMost(r, most), () -> model.setMost(r, most));
            case 9 -> same("again " + who, () -> heaps.again(who), () -> model.again(who));
            case 10, 11 -> same("undo", heaps::undo, model::undo);
            case 12 -> same("keep " + who, () -> heaps.keep(who), () -> model.keep(who));
            default -> same("bringBack " + who, () -> heaps.bringBack(who), () -> model.bringBack(who));
        }
        if (dice.once(40)) {
            load(texts.next());
        }
        if (dice.once(40)) {
            same("follow 600", () -> heaps.follow(600), () -> model.follow(600));
        }
    }

    private void askMix() {
        int p = part();
        int k = units();
        int l = units();
        int what = dice.from(-1, 13);
        switch (dice.below(8)) {
            case 0, 1, 2 -> same("count " + what, () -> heaps.count(what), () -> model.count(what));
            case 3, 4 -> same("part " + p + " " + what, () -> heaps.part(p, what), () -> model.part(p, what));
            case 5 -> same("whyNot " + p + " " + k + " " + l, () -> heaps.whyNot(p, k, l), () -> model.whyNot(p, k, l));
            case 6 -> same("totalBehind " + p + " " + k + " " + l, () -> heaps.totalBehind(p, k, l),
                () -> model.totalBehind(p, k, l));
            default -> {
                int w = what / 3;
                same("advice " + w, () -> heaps.advice(w), () -> model.advice(w));
            }
        }
    }

    private void askRule() {
        int r = rule();
        int x = side();
        int y = side();
        int few = dice.from(-1, 9);
        int many = dice.once(4) ? dice.from(-1, 1681) : dice.below(60);
        boolean second = dice.once(2);
        switch (dice.below(15)) {
            case 0 -> same("rule " + r + " " + few, () -> heaps.rule(r, few), () -> model.rule(r, few));
            case 1 -> same("only " + r + " " + few, () -> heaps.only(r, few), () -> model.only(r, few));
            case 2 -> same("barred " + r + " " + few, () -> heaps.barred(r, few, second), () -> model.barred(r, few, second));
            case 3 -> same("ruleLetter " + r + " " + few, () -> heaps.ruleLetter(r, few), () -> model.ruleLetter(r, few));
            case 4 -> same("allows " + r + " " + x + " " + y, () -> heaps.allows(r, x, y), () -> model.allows(r, x, y));
            case 5 -> same("value " + r + " " + x + " " + y, () -> heaps.value(r, x, y), () -> model.value(r, x, y));
            case 6 -> same("span " + r + " " + x + " " + y, () -> heaps.span(r, x, y), () -> model.span(r, x, y));
            case 7 -> same("losing " + r + " " + many, () -> heaps.losing(r, many, second), () -> model.losing(r, many, second));
            case 8 -> same("partner " + r + " " + x, () -> heaps.partner(r, x), () -> model.partner(r, x));
            case 9 -> same("gap " + r, () -> heaps.gap(r), () -> model.gap(r));
            case 10 -> same("changedBy " + r + " " + x / 4 + " " + y / 4, () -> heaps.changedBy(r, x / 4, y / 4),
                () -> model.changedBy(r, x / 4, y / 4));
            case 11 -> same("losingWith " + r + " " + few, () -> heaps.losingWith(r, few), () -> model.losingWith(r, few));
            case 12 -> same("share " + r, () -> heaps.share(r), () -> model.share(r));
            case 13 -> same("meanValue " + r, () -> heaps.meanValue(r), () -> model.meanValue(r));
            default -> same("printRule " + r, () -> heaps.printRule(r), () -> model.printRule(r));
        }
    }

    private void askGolden() {
        int slack = dice.once(15) ? dice.from(0, 6) : dice.from(1, 5);
        int v = dice.once(3) ? dice.from(-1, 60) : dice.from(1, 500000001);
        int n = dice.once(3) ? dice.from(-1, 60) : dice.from(1, 100000001);
        int index = dice.from(-1, 10);
        boolean second = dice.once(2);
        switch (dice.below(6)) {
            case 0 -> same("golden " + slack + " " + n, () -> heaps.golden(slack, n, second),
                () -> model.golden(slack, n, second));
            case 1 -> same("goldenOf " + slack + " " + v, () -> heaps.goldenOf(slack, v), () -> model.goldenOf(slack, v));
            case 2 -> same("goldenPartner " + slack + " " + v, () -> heaps.goldenPartner(slack, v),
                () -> model.goldenPartner(slack, v));
            case 3 -> same("goldenMany " + slack + " " + v, () -> heaps.goldenMany(slack, v),
                () -> model.goldenMany(slack, v));
            case 4 -> same("summand " + v + " " + index, () -> heaps.summand(v, index), () -> model.summand(v, index));
            default -> same("leastPlace " + v, () -> heaps.leastPlace(v), () -> model.leastPlace(v));
        }
    }

    private void askTurns() {
        int player = dice.once(15) ? dice.from(-1, 2) : dice.below(2);
        int what = dice.once(15) ? dice.from(-1, 5) : dice.below(5);
        int index = dice.once(4) ? dice.from(-1, 20) : dice.below(4);
        switch (dice.below(8)) {
            case 0, 1, 2 -> same("account " + player + " " + what, () -> heaps.account(player, what),
                () -> model.account(player, what));
            case 3, 4, 5 -> same("turn " + index + " " + what, () -> heaps.turn(index, what), () -> model.turn(index, what));
            case 6 -> same("turnsIn", heaps::turnsIn, model::turnsIn);
            default -> same("winner", heaps::winner, model::winner);
        }
    }

    private void askRest() {
        int index = dice.from(-1, 60);
        int length = dice.from(-1, 601);
        switch (dice.below(7)) {
            case 0 -> same("printParts", heaps::printParts, model::printParts);
            case 1, 2, 3 -> same("outputByte " + index, () -> heaps.outputByte(index), () -> model.outputByte(index));
            case 4 -> same("appendInput", () -> heaps.appendInput(index, -1, 7, length, index),
                () -> model.appendInput(index, -1, 7, length, index));
            case 5 -> same("truncateInput", () -> heaps.truncateInput(length), () -> model.truncateInput(length));
            default -> same("errorCode", heaps::errorCode, model::errorCode);
        }
    }
}
