import java.util.NoSuchElementException;

/** Section 7, promises 36 to 42, 46 and 47: what counts as a change, undo, what throws, and snapshots. */
final class BoundsOfChangesTest {
    private static final String TEXT = "rule a bar 2 1;rule b only 3 slack 0 bar 1 0 bar 2 0 bar 3 0 bar 4 0;"
        + "board a 5 8;board b 6 6;stick 7 3;first 1;";

    public static void main(String[] args) {
        changesThatDifferNothing();
        noChanges();
        eachChangeIsOne();
        atMostEight();
        theOldestIsGone();
        roundAndRound();
        undoneOnesAreKeptNoMore();
        undoAnswersWhatIsLeft();
        undoOfEachChange();
        undoLeavesTheRest();
        nothingToUndo();
        throwingChangesNothing();
        throwingKeepsTheOldest();
        moveRefused();
        moveTotal();
        theLastMove();
        followAtMost();
        followToTheEnd();
        followWhenOver();
        barIsTheLast();
        barsComeAhead();
        barSoAlready();
        fifthBar();
        slackBefore();
        mostBefore();
        rulesOfOthers();
        againAsTold();
        againKeeps();
        againAtOnce();
        keepAnswersTurns();
        keepInPlace();
        keepEverything();
        keepButTheRest();
        bringBackStaysKept();
        bringBackEndsUndo();
        nothingKept();
        Check.finish("BoundsOfChangesTest");
    }

    /** Eight changes behind each other, one of each kind at least. */
    private static void change(GoldenHeaps heaps, int number) {
        switch (number % 8) {
            case 0 -> heaps.move(0, 1, 1);
            case 1 -> heaps.setSlack(0, 2 + number % 3);
            case 2 -> heaps.bar(0, 3, 3, true);
            case 3 -> heaps.follow(2);
            case 4 -> heaps.setMost(0, 10 + number % 30);
            case 5 -> heaps.again(0);
            case 6 -> heaps.bar(1, 1, 0, false);
            default -> heaps.move(2, 2, 0);
        }
    }

    private static void dueMissing(String call, Check.Call made) {
        Check.dueThrow(call, made, NoSuchElementException.class);
    }

    private static void dueRefused(String call, Check.Call made) {
        Check.dueThrow(call, made, IllegalStateException.class);
    }

    // ---- section 7

    /** "Changes are the methods whose description says so, if they succeed, also if nothing is different then." */
    private static void changesThatDifferNothing() {
        GoldenHeaps heaps = Check.loaded("rule a bar 2 1;board a 0 0;");
        heaps.again(0);
        String before = Whole.kept(heaps);
        Check.due("the same SLACK", heaps.setSlack(0, 1) + heaps.count(10), 1 + 2);
        Check.due("the same MOST", heaps.setMost(0, 40) + heaps.count(10), 40 + 3);
        Check.due("barred already", heaps.bar(0, 2, 1, true) + heaps.count(10), 1 + 4);
        Check.due("not barred already", heaps.bar(0, 1, 2, false) + heaps.count(10), 1 + 5);
        Check.due("nothing to follow", heaps.follow(3) + heaps.count(10), 6);
        Check.due("all is the same", Whole.kept(heaps), before);
        for (int left = 5; left >= 1; left--) {
            Check.due("undo", heaps.undo(), left);
            Check.due("all is the same", Whole.kept(heaps), before);
        }
    }

    /** The same: what does not say so is none. */
    private static void noChanges() {
        GoldenHeaps heaps = Check.loaded(TEXT);
        heaps.move(0, 1, 1);
        heaps.keep(0);
        heaps.printParts();
        heaps.printRule(0);
        heaps.appendInput(1, 2, 3, 4, 5);
        heaps.truncateInput(3);
        heaps.loadHeaps();
        heaps.turnsIn();
        heaps.winner();
        heaps.totalBehind(0, 1, 1);
        heaps.changedBy(0, 1, 1);
        heaps.losingWith(0, 0);
        heaps.value(1, 3, 3);
        Check.due("changes", heaps.count(10), 1);
        Check.due("undo", heaps.undo(), 0);
        Check.due("the move is undone", Check.parts(heaps), "a:5,8 b:6,6 7/3");
    }

    /** Each change is one change, a follow of many turns, too. */
    private static void eachChangeIsOne() {
        GoldenHeaps heaps = Check.loaded(TEXT);
        for (int i = 0; i < 8; i++) {
            change(heaps, i);
            Check.due("changes behind change " + i, heaps.count(10), i + 1);
        }
    }

    /** "At most 8 changes are kept to be undone". */
    private static void atMostEight() {
        GoldenHeaps heaps = Check.loaded(TEXT);
        for (int made = 1; made <= 20; made++) {
            heaps.setMost(0, made);
            Check.due("changes behind " + made, heaps.count(10), made < 8 ? made : 8);
        }
    }

    /** "a further one puts the oldest of them away for good". */
    private static void theOldestIsGone() {
        for (int made = 7; made <= 17; made++) {
            GoldenHeaps heaps = Check.loaded(TEXT);
            String[] moments = new String[made + 1];
            moments[0] = Whole.kept(heaps);
            for (int i = 1; i <= made; i++) {
                heaps.setMost(0, 40 - i);
                moments[i] = Whole.kept(heaps);
            }
            int kept = made < 8 ? made : 8;
            for (int undone = 1; undone <= kept; undone++) {
                Check.due("undo", heaps.undo(), kept - undone);
                Check.due("moment " + (made - undone), Whole.kept(heaps), moments[made - undone]);
            }
            dueMissing("undo behind all of " + made, heaps::undo);
            Check.due("nothing more", Whole.kept(heaps), moments[made - kept]);
        }
    }

    /** The same, with changes and undone ones in turn, all kinds of them. */
    private static void roundAndRound() {
        GoldenHeaps heaps = Check.loaded("rule a bar 2 1;rule b;board a 40 40;board b 6 6;stick 60 3;");
        String[] moments = new String[64];
        int kept = 0;
        int at = 0;
        moments[0] = Whole.kept(heaps);
        int[] steps = {3, -2, 6, -3, 5, -1, 4, -8, 2, -2, 9, -4, 5, -8};
        for (int step : steps) {
            for (int i = 0; i < step; i++) {
                change(heaps, at);
                at++;
                kept = Math.min(kept + 1, 8);
                moments[at] = Whole.kept(heaps);
            }
            for (int i = 0; i > step && kept > 0; i--) {
                at--;
                kept--;
                Check.due("undo", heaps.undo(), kept);
                Check.due("moment " + at, Whole.kept(heaps), moments[at]);
            }
            Check.due("changes", heaps.count(10), kept);
        }
        Check.due("all are undone", kept, 0);
        dueMissing("undo", heaps::undo);
    }

    /** "one that was undone is kept no more." */
    private static void undoneOnesAreKeptNoMore() {
        GoldenHeaps heaps = Check.loaded(TEXT);
        heaps.setMost(0, 9);
        heaps.setMost(0, 8);
        heaps.undo();
        heaps.setMost(0, 7);
        Check.due("changes", heaps.count(10), 2);
        heaps.undo();
        Check.due("ahead of 7", heaps.rule(0, 1), 9);
        heaps.undo();
        Check.due("ahead of 9", heaps.rule(0, 1), 40);
        dueMissing("no more", heaps::undo);
    }

    /** Promise 42: "Returns the number of changes that can still be undone." */
    private static void undoAnswersWhatIsLeft() {
        GoldenHeaps heaps = Check.loaded(TEXT);
        for (int i = 0; i < 9; i++) {
            heaps.setMost(0, 9 + i);
        }
        for (int left = 7; left >= 0; left--) {
            Check.due("undo", heaps.undo(), left);
            Check.due("changes", heaps.count(10), left);
        }
    }

    /** "Undoes the latest change": all that it changed. */
    private static void undoOfEachChange() {
        for (int kind = 0; kind < 8; kind++) {
            GoldenHeaps heaps = Check.loaded(TEXT);
            heaps.follow(3);
            heaps.again(1);
            String before = Whole.kept(heaps);
            change(heaps, kind);
            Check.due("different by " + kind, Whole.kept(heaps).equals(before), false);
            Check.due("undo", heaps.undo(), 2);
            Check.due("as ahead of " + kind, Whole.kept(heaps), before);
        }
        // The oldest one of 20 turns comes back, too.
        GoldenHeaps turns = Check.loaded("rule a;stick 60 2;");
        for (int i = 0; i < 20; i++) {
            turns.move(0, 1 + i % 2, 0);
        }
        String before = Whole.kept(turns);
        turns.follow(9);
        turns.undo();
        Check.due("20 turns", Whole.kept(turns), before);
    }

    /** "The input buffer, the error, the output and the snapshots stay." */
    private static void undoLeavesTheRest() {
        GoldenHeaps heaps = Check.loaded(TEXT);
        heaps.keep(0);
        heaps.move(0, 1, 1);
        String kept = Whole.kept(heaps);
        heaps.keep(0);
        heaps.keep(1);
        Check.append(heaps, "rule ?");
        heaps.loadHeaps();
        Check.append(heaps, "rule q;");
        heaps.printParts();
        heaps.undo();
        Check.due("the error", heaps.errorCode() * 100 + heaps.errorOffset(), 105);
        Check.due("the output", Check.output(heaps), "a:4,7 b:6,6 7/3");
        Check.due("the input", Whole.inputLength(heaps), 7);
        heaps.bringBack(0);
        Check.due("a snapshot in place of an earlier one", Whole.kept(heaps), kept);
        heaps.bringBack(1);
        Check.due("a new snapshot", Whole.kept(heaps), kept);
        Check.due("the input is the text that it was", heaps.loadHeaps(), 0);
        Check.due("its rule", heaps.ruleLetter(0, 0), 17);
    }

    /** "Throws NoSuchElementException if there is none": without a change, behind a load, behind bringBack. */
    private static void nothingToUndo() {
        GoldenHeaps heaps = new GoldenHeaps();
        dueMissing("a new object", heaps::undo);
        heaps.move(0, 1, 1);
        heaps.undo();
        dueMissing("behind undo", heaps::undo);
        heaps.move(0, 1, 1);
        Check.append(heaps, "rule a;");
        heaps.loadHeaps();
        dueMissing("behind a load", heaps::undo);
        heaps.setMost(0, 3);
        heaps.keep(1);
        heaps.bringBack(1);
        dueMissing("behind bringBack", heaps::undo);
    }

    /** "A method that throws changes nothing." */
    private static void throwingChangesNothing() {
        GoldenHeaps heaps = Check.loaded(TEXT);
        heaps.move(0, 1, 1);
        heaps.keep(0);
        heaps.printParts();
        Check.append(heaps, "rule");
        String before = Whole.of(heaps);
        dueRefused("move", () -> heaps.move(0, 9, 9));
        Check.noIndex("move", () -> heaps.move(3, 1, 1));
        Check.noRange("follow", () -> heaps.follow(601));
        Check.noRange("follow", () -> heaps.follow(0));
        dueRefused("bar", () -> heaps.bar(1, 5, 5, true));
        Check.noRange("bar", () -> heaps.bar(0, 41, 1, true));
        Check.noRange("bar", () -> heaps.bar(0, 0, 0, true));
        Check.noIndex("bar", () -> heaps.bar(2, 1, 1, true));
        Check.noRange("setSlack", () -> heaps.setSlack(0, 6));
        Check.noIndex("setSlack", () -> heaps.setSlack(2, 2));
        Check.noRange("setMost", () -> heaps.setMost(0, 41));
        Check.noIndex("setMost", () -> heaps.setMost(2, 2));
        Check.noIndex("again", () -> heaps.again(2));
        Check.noIndex("printRule", () -> heaps.printRule(2));
        Check.noRange("keep", () -> heaps.keep(2));
        Check.noRange("bringBack", () -> heaps.bringBack(2));
        dueMissing("bringBack", () -> heaps.bringBack(1));
        Check.due("all is as it was", Whole.of(heaps), before);
        heaps.undo();
        String atFirst = Whole.of(heaps);
        dueMissing("undo", heaps::undo);
        Check.due("all is as it was", Whole.of(heaps), atFirst);
    }

    /** The same: with 8 changes kept, what throws puts none of them away. */
    private static void throwingKeepsTheOldest() {
        GoldenHeaps heaps = Check.loaded(TEXT);
        String atFirst = Whole.kept(heaps);
        for (int most = 9; most >= 2; most--) {
            heaps.setMost(0, most);
        }
        dueRefused("move", () -> heaps.move(0, 9, 9));
        Check.noRange("follow", () -> heaps.follow(0));
        dueRefused("bar", () -> heaps.bar(1, 5, 5, true));
        Check.noRange("bar", () -> heaps.bar(0, 0, 0, false));
        Check.noRange("setSlack", () -> heaps.setSlack(0, -1));
        Check.noRange("setMost", () -> heaps.setMost(0, 0));
        Check.noIndex("again", () -> heaps.again(-1));
        dueMissing("bringBack", () -> heaps.bringBack(0));
        for (int left = 7; left >= 0; left--) {
            Check.due("undo", heaps.undo(), left);
        }
        Check.due("the oldest one is undone", Whole.kept(heaps), atFirst);
    }

    // ---- promises 36 and 37

    /** "if the move is refused (section 5)": by each of the seven reasons. */
    private static void moveRefused() {
        GoldenHeaps heaps = Check.loaded("rule a only 2 slack 2 most 4 bar 3 3;board a 6 6;stick 5 3;");
        int[][] refused = {{0, 0, 0, 1}, {0, -1, 2, 1}, {0, 7, 7, 2}, {0, 6, 6, 4}, {0, 3, 0, 5}, {0, 1, 3, 6},
            {0, 3, 3, 7}, {1, 0, 0, 1}, {1, 6, 0, 2}, {1, 1, 1, 2}, {1, 4, 0, 3},
            {1, Integer.MAX_VALUE, Integer.MIN_VALUE, 1}};
        for (int[] row : refused) {
            Check.due("whyNot", heaps.whyNot(row[0], row[1], row[2]), row[3]);
            dueRefused("move by reason " + row[3], () -> heaps.move(row[0], row[1], row[2]));
        }
        Check.due("nothing is taken", heaps.count(11), 17);
        Check.due("no change", heaps.count(10), 0);
    }

    /** "Returns TOTAL behind it." */
    private static void moveTotal() {
        GoldenHeaps heaps = Check.loaded("rule a slack 0;board a 5 8;stick 7 3;");
        Check.due("of a board", heaps.move(0, 0, 8), 5 ^ 3);
        Check.due("of a stick", heaps.move(1, 3, 0), 5 ^ 0);
        Check.due("0", heaps.move(0, 5, 0), 0);
        Check.due("TOTAL", heaps.count(5), 0);
    }

    /** A move can take all that there is; then the game is over, and nothing more can be moved. */
    private static void theLastMove() {
        GoldenHeaps heaps = Check.loaded("rule a;board a 7 7;stick 3 3;");
        heaps.move(0, 7, 7);
        Check.due("parts", Check.parts(heaps), "a:0,0 3/3");
        heaps.move(1, 3, 0);
        Check.due("parts", Check.parts(heaps), "a:0,0 0/3");
        Check.due("over", heaps.count(8), 1);
        dueRefused("no unit", () -> heaps.move(0, 1, 0));
        dueRefused("no unit", () -> heaps.move(1, 1, 0));
    }

    /** "1 to 600: at most so many turns". "Returns how many turns were made." */
    private static void followAtMost() {
        GoldenHeaps heaps = Check.loaded("rule a;stick 10 1;");
        Check.due("1 turn", heaps.follow(1), 1);
        Check.due("LENGTH", heaps.part(0, 2), 9);
        Check.due("8 turns", heaps.follow(8), 8);
        Check.due("LENGTH", heaps.part(0, 2), 1);
        Check.due("not over", heaps.count(8), 0);
        Check.due("the last one", heaps.follow(1), 1);
        Check.due("over", heaps.count(8), 1);
        Check.noRange("0 turns", () -> heaps.follow(0));
        Check.noRange("601 turns", () -> heaps.follow(601));
    }

    /** "until the game is over." */
    private static void followToTheEnd() {
        GoldenHeaps heaps = Check.loaded("rule a;stick 10 1;first 1;");
        Check.due("11 turns of 10", heaps.follow(11), 10);
        Check.due("turns", heaps.count(4), 10);
        Check.due("last turns of player 0", heaps.account(0, 2), 1);
        Check.due("last turns of player 1", heaps.account(1, 2), 0);
        Check.due("player", heaps.count(3), 1);
        GoldenHeaps just = Check.loaded("rule a;stick 10 1;");
        Check.due("10 turns of 10", just.follow(10), 10);
    }

    /** The same when there is nothing to follow: no turn, no account, but a change. */
    private static void followWhenOver() {
        GoldenHeaps heaps = Check.loaded("rule a;");
        String before = Whole.kept(heaps);
        Check.due("follow", heaps.follow(600), 0);
        Check.due("all is the same", Whole.kept(heaps), before);
        Check.due("changes", heaps.count(10), 1);
    }

    // ---- promises 38 to 41

    /** "The move is the last one of those that are barred then". */
    private static void barIsTheLast() {
        GoldenHeaps heaps = Check.loaded("rule a;");
        int[][] moves = {{40, 40}, {0, 40}, {1, 0}, {0, 1}};
        for (int i = 0; i < 4; i++) {
            Check.due("how many", heaps.bar(0, moves[i][0], moves[i][1], true), i + 1);
            Check.due("k", heaps.barred(0, i, false), moves[i][0]);
            Check.due("l", heaps.barred(0, i, true), moves[i][1]);
        }
        Check.due("in their order", Check.rule(heaps, 0), "rule a slack 1 most 40 bar 40 40 bar 0 40 bar 1 0 bar 0 1");
    }

    /** "the ones behind it come one place ahead if it is barred no more." */
    private static void barsComeAhead() {
        String[] due = {"bar 2 0 bar 3 0 bar 4 0", "bar 1 0 bar 3 0 bar 4 0", "bar 1 0 bar 2 0 bar 4 0",
            "bar 1 0 bar 2 0 bar 3 0"};
        for (int i = 0; i < 4; i++) {
            String others = "rule a slack 1 most 40 " + due[i];
            GoldenHeaps heaps = Check.loaded("rule a bar 1 0 bar 2 0 bar 3 0 bar 4 0;");
            Check.due("how many", heaps.bar(0, i + 1, 0, false), 3);
            Check.due("the others", Check.rule(heaps, 0), others);
            Check.due("no 4th one", heaps.barred(0, 3, false), -1);
            Check.due("how many", heaps.bar(0, i + 1, 0, true), 4);
            Check.due("the last one", Check.rule(heaps, 0), others + " bar " + (i + 1) + " 0");
        }
        GoldenHeaps one = Check.loaded("rule a bar 1 0;");
        Check.due("none is left", one.bar(0, 1, 0, false), 0);
        Check.due("none is left", Check.rule(one, 0), "rule a slack 1 most 40");
    }

    /** "If it is so already, nothing else happens." */
    private static void barSoAlready() {
        GoldenHeaps heaps = Check.loaded("rule a bar 1 0 bar 2 0 bar 3 0 bar 4 0;");
        Check.due("barred already, with four", heaps.bar(0, 1, 0, true), 4);
        Check.due("not barred already", heaps.bar(0, 0, 1, false), 4);
        Check.due("their order stays", Check.rule(heaps, 0), "rule a slack 1 most 40 bar 1 0 bar 2 0 bar 3 0 bar 4 0");
        Check.due("changes", heaps.count(10), 2);
        GoldenHeaps none = Check.loaded("rule a;");
        Check.due("not barred already, with none", none.bar(0, 1, 1, false), 0);
    }

    /** "if it would be the 5th one". */
    private static void fifthBar() {
        GoldenHeaps heaps = Check.loaded("rule a bar 1 0 bar 2 0 bar 3 0;rule b bar 1 1;");
        Check.due("the 4th one", heaps.bar(0, 4, 0, true), 4);
        dueRefused("the 5th one", () -> heaps.bar(0, 5, 0, true));
        Check.due("of another rule", heaps.bar(1, 5, 0, true), 2);
        heaps.bar(0, 4, 0, false);
        Check.due("the 4th one again", heaps.bar(0, 5, 0, true), 4);
        dueRefused("the 5th one", () -> heaps.bar(0, 4, 0, true));
        heaps.undo();
        Check.due("the 4th one behind undo", heaps.bar(0, 6, 0, true), 4);
    }

    /** Promise 39: "Returns SLACK before." */
    private static void slackBefore() {
        GoldenHeaps heaps = Check.loaded("rule a slack 5;");
        int[] slacks = {0, 5, 5, 0, 1};
        int before = 5;
        for (int slack : slacks) {
            Check.due("before " + slack, heaps.setSlack(0, slack), before);
            Check.due("SLACK", heaps.rule(0, 0), slack);
            before = slack;
        }
    }

    /** Promise 40: "Returns MOST before." */
    private static void mostBefore() {
        GoldenHeaps heaps = Check.loaded("rule a;");
        int[] mosts = {1, 40, 40, 1, 20};
        int before = 40;
        for (int most : mosts) {
            Check.due("before " + most, heaps.setMost(0, most), before);
            Check.due("MOST", heaps.rule(0, 1), most);
            before = most;
        }
    }

    /** A change of one rule is none of the others, whose tables stay; its own table and boards follow. */
    private static void rulesOfOthers() {
        GoldenHeaps heaps = Check.loaded("rule a;rule b;rule c;rule d;board d 3 5;board a 3 5;");
        Check.due("TOTAL", heaps.count(5), 0);
        heaps.setSlack(3, 0);
        Check.due("VALUE by the other SLACK", heaps.part(0, 4), 3 ^ 5);
        Check.due("VALUE by its own", heaps.part(1, 4), 0);
        heaps.bar(0, 0, 1, true);
        heaps.setMost(2, 1);
        Check.due("b is free", heaps.rule(1, 4), 1);
        Check.due("d", Check.rule(heaps, 3), "rule d slack 0 most 40");
        Check.due("c", Check.rule(heaps, 2), "rule c slack 1 most 1");
        Check.due("a", Check.rule(heaps, 0), "rule a slack 1 most 40 bar 0 1");
        Check.due("the advice follows", heaps.advice(0) >= 0 && heaps.whyNot(heaps.advice(0), heaps.advice(1),
            heaps.advice(2)) == 0, true);
    }

    /** "all parts are as the text told them (rules stay as they are now)". "Returns TOTAL then." */
    private static void againAsTold() {
        GoldenHeaps heaps = Check.loaded(TEXT);
        heaps.follow(600);
        heaps.setSlack(0, 0);
        heaps.bar(1, 1, 0, false);
        Check.due("TOTAL", heaps.again(0), heaps.value(0, 5, 8) ^ heaps.value(1, 6, 6) ^ 3);
        Check.due("TOTAL", heaps.count(5), 5 ^ 8 ^ heaps.value(1, 6, 6) ^ 3);
        Check.due("parts", Check.parts(heaps), "a:5,8 b:6,6 7/3");
        Check.due("as told", heaps.part(0, 7) * 10 + heaps.part(0, 8), 58);
        Check.due("SLACK stays", heaps.rule(0, 0), 0);
        Check.due("bars stay", heaps.rule(1, 3), 3);
        Check.due("the first player", heaps.count(3), 0);
        Check.due("turns of this game", heaps.count(4), 0);
    }

    /** "accounts and turns that are kept stay." */
    private static void againKeeps() {
        GoldenHeaps heaps = Check.loaded("rule a;stick 9 2;first 1;");
        heaps.follow(600);
        int turns = heaps.count(12);
        int units = heaps.account(0, 1) + heaps.account(1, 1);
        int last = heaps.turn(0, 0);
        heaps.again(0);
        Check.due("units", heaps.account(0, 1) + heaps.account(1, 1), units);
        Check.due("turns", heaps.count(12), turns);
        Check.due("the latest one", heaps.turn(0, 0), last);
        Check.due("games", heaps.count(9), 2);
        heaps.undo();
        Check.due("games", heaps.count(9), 1);
        Check.due("turns of the game", heaps.count(4), turns);
    }

    /** A game can begin again at once, by each player. */
    private static void againAtOnce() {
        GoldenHeaps heaps = Check.loaded("rule a;stick 9 2;first 1;");
        Check.due("TOTAL", heaps.again(0), 0);
        Check.due("player", heaps.count(3), 0);
        Check.due("games", heaps.count(9), 2);
        heaps.again(1);
        Check.due("player", heaps.count(3), 1);
        Check.due("games", heaps.count(9), 3);
        Check.due("turns that are kept", heaps.count(12), 0);
        Check.due("without parts", Check.loaded("rule a;").again(1), 0);
        Check.noIndex("player 2", () -> heaps.again(2));
        Check.noIndex("player -1", () -> heaps.again(-1));
    }

    // ---- promises 46 and 47

    /** "Returns turns of this game so far." and "Returns turns of this game so far then." */
    private static void keepAnswersTurns() {
        GoldenHeaps heaps = Check.loaded("rule a;stick 9 1;");
        Check.due("keep", heaps.keep(0), 0);
        heaps.follow(9);
        Check.due("keep", heaps.keep(1), 9);
        heaps.again(0);
        Check.due("keep in another game", heaps.keep(1), 0);
        heaps.follow(2);
        Check.due("keep", heaps.keep(1), 2);
        Check.due("bringBack", heaps.bringBack(0), 0);
        Check.due("bringBack", heaps.bringBack(1), 2);
    }

    /** "in place of an earlier one in this slot": the other slot stays. */
    private static void keepInPlace() {
        GoldenHeaps heaps = Check.loaded("rule a;stick 9 1;");
        heaps.keep(0);
        heaps.keep(1);
        heaps.move(0, 1, 0);
        heaps.keep(0);
        heaps.move(0, 1, 0);
        Check.due("the later one", heaps.bringBack(0), 1);
        Check.due("LENGTH", heaps.part(0, 2), 8);
        Check.due("the other one", heaps.bringBack(1), 0);
        Check.due("LENGTH", heaps.part(0, 2), 9);
    }

    /** "Keeps a snapshot of everything but ..": rules, parts, players, games, accounts, turns. */
    private static void keepEverything() {
        GoldenHeaps heaps = Check.loaded(TEXT);
        for (int i = 0; i < 7; i++) {
            change(heaps, i);
        }
        heaps.keep(1);
        String kept = Whole.kept(heaps);
        for (int i = 7; i < 20; i++) {
            change(heaps, i);
        }
        Check.due("all is different", Whole.kept(heaps).equals(kept), false);
        heaps.bringBack(1);
        Check.due("all is as it was kept", Whole.kept(heaps), kept);
        heaps.again(0);
        Check.due("parts are as the text told them", Check.parts(heaps), "a:5,8 b:6,6 7/3");
    }

    /** "everything but the input buffer, the error, the output, the changes that can be undone and the snapshots". */
    private static void keepButTheRest() {
        GoldenHeaps heaps = Check.loaded(TEXT);
        heaps.printRule(0);
        heaps.keep(0);
        heaps.move(0, 1, 1);
        heaps.keep(1);
        heaps.printParts();
        Check.append(heaps, "rule ?");
        heaps.loadHeaps();
        Check.append(heaps, "rule");
        heaps.bringBack(0);
        Check.due("the input stays", Whole.inputLength(heaps), 4);
        Check.due("the error stays", heaps.errorCode() * 100 + heaps.errorOffset(), 105);
        Check.due("the output stays", Check.output(heaps), "a:4,7 b:6,6 7/3");
        Check.due("the snapshots stay", heaps.bringBack(1), 1);
    }

    /** "Brings a snapshot back, which stays kept." */
    private static void bringBackStaysKept() {
        GoldenHeaps heaps = Check.loaded(TEXT);
        heaps.keep(0);
        String kept = Whole.kept(heaps);
        for (int i = 0; i < 3; i++) {
            heaps.setSlack(0, i);
            heaps.bar(0, 3, 3, true);
            heaps.follow(5);
            heaps.again(0);
            Check.due("bringBack", heaps.bringBack(0), 0);
            Check.due("all is as it was kept", Whole.kept(heaps), kept);
        }
    }

    /** "Nothing can be undone then." */
    private static void bringBackEndsUndo() {
        GoldenHeaps heaps = Check.loaded(TEXT);
        for (int i = 0; i < 9; i++) {
            heaps.setMost(0, 9 + i);
        }
        heaps.keep(0);
        Check.due("keep leaves them", heaps.count(10), 8);
        heaps.bringBack(0);
        Check.due("changes", heaps.count(10), 0);
        dueMissing("undo", heaps::undo);
        heaps.setMost(0, 2);
        Check.due("changes behind it", heaps.undo(), 0);
        Check.due("MOST", heaps.rule(0, 1), 17);
        dueMissing("undo", heaps::undo);
    }

    /** "if nothing is kept there": never kept, or put away by a load. */
    private static void nothingKept() {
        GoldenHeaps heaps = Check.loaded(TEXT);
        dueMissing("slot 0", () -> heaps.bringBack(0));
        dueMissing("slot 1", () -> heaps.bringBack(1));
        heaps.keep(1);
        dueMissing("slot 0 still", () -> heaps.bringBack(0));
        Check.append(heaps, "rule ?");
        heaps.loadHeaps();
        Check.due("behind a wrong text", heaps.bringBack(1), 0);
        Check.append(heaps, "rule a;");
        heaps.loadHeaps();
        dueMissing("behind a load", () -> heaps.bringBack(1));
        heaps.keep(0);
        dueMissing("slot 1 behind a load", () -> heaps.bringBack(1));
        Check.due("slot 0 again", heaps.bringBack(0), 0);
    }
}
