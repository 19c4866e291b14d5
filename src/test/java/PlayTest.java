import java.util.NoSuchElementException;

/** Promises 28 to 31 and 36 to 42: advice, predictions, moves and the other changes, and undo. */
final class PlayTest {
    public static void main(String[] args) {
        advice();
        predictions();
        totalBehind();
        move();
        follow();
        bar();
        setSlack();
        setMost();
        again();
        undo();
        undoOfEachChange();
        Check.finish("PlayTest");
    }

    private static String advised(GoldenHeaps heaps) {
        return heaps.advice(0) + " " + heaps.advice(1) + " " + heaps.advice(2) + " " + heaps.advice(3);
    }

    /** Promise 28. */
    private static void advice() {
        Check.due("advice", advised(new GoldenHeaps()), "0 0 5 1");
        Check.due("the first move", advised(Check.loaded("rule a;board a 3 5;")), "0 0 1 0");
        Check.due("the first move", advised(Check.loaded("rule a;board a 0 0;board a 3 3;stick 6 9;")), "1 0 1 0");
        Check.due("of a stick", advised(Check.loaded("rule a;board a 0 0;stick 7 3;stick 4 2;")), "1 2 0 1");
        Check.due("by k", advised(Check.loaded("rule a only 2 3 slack 0;board a 3 0;")), "0 2 0 1");
        Check.due("behind the boards", advised(Check.loaded("stick 5 2;rule a;board a 0 0;")), "1 2 0 1");
        // VALUES 3 and 1: the winning move on the first part leads to VALUE 1.
        Check.due("two sticks", advised(Check.loaded("rule a;stick 3 9;stick 1 9;")), "0 2 0 1");
        Check.due("over", advised(Check.loaded("rule a;board a 0 0;")), "-1 -1 -1 -1");
        Check.due("no parts", advised(Check.loaded("rule a;")), "-1 -1 -1 -1");
        GoldenHeaps heaps = new GoldenHeaps();
        Check.noRange("advice(4)", () -> heaps.advice(4));
        Check.noRange("advice(-1)", () -> heaps.advice(-1));
        Check.noRange("advice(-1)", () -> Check.loaded("rule a;").advice(-1));
    }

    /** Promises 29 and 30. */
    private static void predictions() {
        duePrediction("rule a;", 0, 1);
        duePrediction("rule a;first 1;", 0, 0);
        duePrediction("rule a;stick 5 9;", 1, 0);
        duePrediction("rule a;stick 5 9;first 1;", 1, 1);
        // 1, 2: to 1, 1 (the first move), then over.
        duePrediction("rule a;board a 1 2;", 2, 1);
        duePrediction("rule a;stick 60 1;", 60, 1);
        duePrediction("rule a only 1 slack 0;board a 40 40;board a 40 40;board a 40 40;board a 40 40;"
            + "stick 60 1;stick 60 1;stick 60 1;stick 60 1;first 1;", 560, 0);
        for (int y = 0; y <= 40; y++) {
            GoldenHeaps heaps = Check.loaded("rule a;rule b slack 2;board a 9 " + y + ";board b 5 3;stick 9 4;first 1;");
            int turns = heaps.turnsIn();
            int winner = heaps.winner();
            Check.due("winner wins with TOTAL not 0", winner, heaps.count(5) != 0 ? 1 : 0);
            Check.due("nothing changed", heaps.count(10) + heaps.count(4) + heaps.count(12), 0);
            Check.due("turnsIn", turns, heaps.follow(600));
            Check.due("winner", winner, heaps.turn(0, 0));
        }
    }

    private static void duePrediction(String text, int turns, int winner) {
        GoldenHeaps heaps = Check.loaded(text);
        Check.due("turnsIn of " + text, heaps.turnsIn(), turns);
        Check.due("winner of " + text, heaps.winner(), winner);
        Check.due("turns still to come", heaps.turnsIn(), turns);
    }

    /** Promise 31. */
    private static void totalBehind() {
        GoldenHeaps heaps = Check.loaded("rule a most 4 bar 1 1;board a 5 8;stick 7 3;");
        int total = heaps.count(5);
        Check.due("TOTAL", total, heaps.value(0, 5, 8) ^ 3);
        Check.due("behind", heaps.totalBehind(0, 2, 2), heaps.value(0, 3, 6) ^ 3);
        Check.due("behind", heaps.totalBehind(1, 2, 0), heaps.value(0, 5, 8) ^ 1);
        int[][] refused = {{0, -1, 0}, {0, 0, 0}, {0, 6, 0}, {0, 5, 5}, {0, 2, 1}, {0, 1, 1}, {1, 4, 0}, {1, 8, 0},
            {1, 1, 1}};
        for (int[] row : refused) {
            Check.due("refused", heaps.totalBehind(row[0], row[1], row[2]), -1);
        }
        Check.due("nothing changed", Check.parts(heaps), "a:5,8 7/3");
        Check.noIndex("totalBehind(2, 1, 0)", () -> heaps.totalBehind(2, 1, 0));
        Check.noIndex("totalBehind(-1, 1, 0)", () -> heaps.totalBehind(-1, 1, 0));
    }

    /** Promise 36. */
    private static void move() {
        GoldenHeaps heaps = Check.loaded("rule a;board a 5 8;stick 7 3;");
        Check.due("move", heaps.move(0, 1, 1), 0 ^ 3);
        Check.due("move", heaps.move(1, 3, 0), 0);
        Check.due("parts", Check.parts(heaps), "a:4,7 4/3");
        Check.due("player", heaps.count(3), 0);
        Check.due("changes", heaps.count(10), 2);
        Check.dueThrow("refused", () -> heaps.move(0, 1, 2), IllegalStateException.class);
        Check.dueThrow("refused", () -> heaps.move(0, 0, 0), IllegalStateException.class);
        Check.dueThrow("refused", () -> heaps.move(0, -1, -1), IllegalStateException.class);
        Check.dueThrow("refused", () -> heaps.move(0, 5, 0), IllegalStateException.class);
        Check.dueThrow("refused", () -> heaps.move(1, 1, 1), IllegalStateException.class);
        Check.dueThrow("refused", () -> heaps.move(1, 4, 0), IllegalStateException.class);
        Check.noIndex("move(2, 1, 0)", () -> heaps.move(2, 1, 0));
        Check.noIndex("move(-1, 0, 0)", () -> heaps.move(-1, 0, 0));
        Check.due("nothing changed", heaps.count(10) + heaps.count(4) + heaps.count(12), 6);
        Check.due("nothing changed", Check.parts(heaps), "a:4,7 4/3");
    }

    /** Promise 37. */
    private static void follow() {
        GoldenHeaps heaps = new GoldenHeaps();
        Check.due("follow", heaps.follow(1), 1);
        Check.due("parts", Check.parts(heaps), "plain:5,3");
        Check.due("follow", heaps.follow(2), 2);
        Check.due("changes", heaps.count(10), 2);
        int rest = heaps.turnsIn();
        Check.due("follow", heaps.follow(600), rest);
        Check.due("over", heaps.count(8), 1);
        Check.due("follow", heaps.follow(1), 0);
        Check.due("a change all the same", heaps.count(10), 4);
        Check.due("no blunders", heaps.account(0, 4) + heaps.account(1, 4), 0);
        Check.due("all winning moves", heaps.account(0, 3), heaps.account(0, 0));
        Check.due("the last turn", heaps.account(0, 2), 1);
        Check.due("turns kept", heaps.count(12), rest + 3);
        heaps.undo();
        heaps.undo();
        Check.due("one change", heaps.count(4), 3);
        Check.noRange("follow(0)", () -> heaps.follow(0));
        Check.noRange("follow(601)", () -> heaps.follow(601));
        Check.noRange("follow(-1)", () -> heaps.follow(-1));
        Check.due("no change", heaps.count(10), 2);
        Check.due("no change by what throws", Check.loaded("rule a;").follow(600), 0);
    }

    /** Promise 38. */
    private static void bar() {
        GoldenHeaps heaps = Check.loaded("rule a bar 1 0 bar 0 1;rule b;board a 3 3;");
        Check.due("bar", heaps.bar(0, 40, 40, true), 3);
        Check.due("bar", heaps.bar(0, 2, 0, true), 4);
        Check.dueThrow("the 5th", () -> heaps.bar(0, 3, 0, true), IllegalStateException.class);
        Check.due("so already", heaps.bar(0, 0, 1, true), 4);
        Check.due("so already", heaps.bar(0, 3, 0, false), 4);
        Check.due("changes", heaps.count(10), 4);
        Check.due("rule", Check.rule(heaps, 0), "rule a slack 1 most 40 bar 1 0 bar 0 1 bar 40 40 bar 2 0");
        Check.due("bar no more", heaps.bar(0, 0, 1, false), 3);
        Check.due("rule", Check.rule(heaps, 0), "rule a slack 1 most 40 bar 1 0 bar 40 40 bar 2 0");
        Check.due("bar again", heaps.bar(0, 0, 1, true), 4);
        Check.due("rule", Check.rule(heaps, 0), "rule a slack 1 most 40 bar 1 0 bar 40 40 bar 2 0 bar 0 1");
        Check.due("reason", heaps.whyNot(0, 2, 0), 7);
        Check.due("bar no more", heaps.bar(0, 2, 0, false), 3);
        Check.due("reason", heaps.whyNot(0, 2, 0), 0);
        Check.due("another rule", heaps.rule(1, 3), 0);
        Check.due("not free", heaps.bar(1, 1, 1, true) + heaps.rule(1, 4), 1);
        Check.due("VALUE then", heaps.value(1, 1, 1), 0);
        Check.due("bar no more", heaps.bar(1, 1, 1, false), 0);
        Check.due("VALUE then", heaps.value(1, 1, 1), 2);
        Check.noIndex("bar(2, 1, 1)", () -> heaps.bar(2, 1, 1, true));
        Check.noIndex("bar(-1, 0, 0)", () -> heaps.bar(-1, 0, 0, true));
        Check.noRange("bar(0, 0, 0)", () -> heaps.bar(0, 0, 0, true));
        Check.noRange("bar(0, 0, 0)", () -> heaps.bar(0, 0, 0, false));
        Check.noRange("bar(0, 41, 0)", () -> heaps.bar(0, 41, 0, true));
        Check.noRange("bar(0, 0, 41)", () -> heaps.bar(0, 0, 41, true));
        Check.noRange("bar(0, -1, 1)", () -> heaps.bar(0, -1, 1, true));
        heaps.bar(0, 5, 5, true);
        Check.noRange("bar(0, 1, -1) with four", () -> heaps.bar(0, 1, -1, true));
    }

    /** Promise 39. */
    private static void setSlack() {
        GoldenHeaps heaps = Check.loaded("rule a;rule b slack 5;board b 3 5;");
        Check.due("before", heaps.setSlack(1, 0), 5);
        Check.due("before", heaps.setSlack(1, 0), 0);
        Check.due("changes", heaps.count(10), 2);
        Check.due("SLACK", heaps.rule(1, 0), 0);
        Check.due("SLACK", heaps.rule(0, 0), 1);
        Check.due("VALUE", heaps.part(0, 4), 3 ^ 5);
        Check.due("reason", heaps.whyNot(0, 1, 1), 6);
        Check.due("before", heaps.setSlack(1, 5), 0);
        Check.due("reason", heaps.whyNot(0, 1, 5), 0);
        Check.noIndex("setSlack(2, 1)", () -> heaps.setSlack(2, 1));
        Check.noIndex("setSlack(-1, 9)", () -> heaps.setSlack(-1, 9));
        Check.noRange("setSlack(0, 6)", () -> heaps.setSlack(0, 6));
        Check.noRange("setSlack(0, -1)", () -> heaps.setSlack(0, -1));
        Check.due("changes", heaps.count(10), 3);
    }

    /** Promise 40. */
    private static void setMost() {
        GoldenHeaps heaps = Check.loaded("rule a;rule b most 5;board b 7 7;");
        Check.due("before", heaps.setMost(1, 1), 5);
        Check.due("before", heaps.setMost(1, 1), 1);
        Check.due("changes", heaps.count(10), 2);
        Check.due("MOST", heaps.rule(1, 1), 1);
        Check.due("MOST", heaps.rule(0, 1), 40);
        Check.due("moves", heaps.part(0, 5), 3);
        Check.due("reason", heaps.whyNot(0, 2, 2), 4);
        Check.due("before", heaps.setMost(1, 40), 1);
        Check.due("moves", heaps.part(0, 5), 21);
        Check.noIndex("setMost(2, 1)", () -> heaps.setMost(2, 1));
        Check.noIndex("setMost(-1, 0)", () -> heaps.setMost(-1, 0));
        Check.noRange("setMost(0, 41)", () -> heaps.setMost(0, 41));
        Check.noRange("setMost(0, 0)", () -> heaps.setMost(0, 0));
        Check.due("changes", heaps.count(10), 3);
    }

    /** Promise 41. */
    private static void again() {
        GoldenHeaps heaps = Check.loaded("rule a;board a 5 8;stick 7 3;first 1;");
        heaps.follow(3);
        heaps.setSlack(0, 0);
        Check.due("TOTAL", heaps.again(1), 5 ^ 8 ^ 3);
        Check.due("parts", Check.parts(heaps), "a:5,8 7/3");
        Check.due("rules stay", heaps.rule(0, 0), 0);
        Check.due("player", heaps.count(3), 1);
        Check.due("turns", heaps.count(4), 0);
        Check.due("games", heaps.count(9), 2);
        Check.due("accounts stay", heaps.account(0, 0) + heaps.account(1, 0), 3);
        Check.due("turns kept", heaps.count(12), 3);
        Check.due("changes", heaps.count(10), 3);
        heaps.again(0);
        Check.due("player", heaps.count(3), 0);
        Check.due("games", heaps.count(9), 3);
        Check.noIndex("again(2)", () -> heaps.again(2));
        Check.noIndex("again(-1)", () -> heaps.again(-1));
        Check.due("games", heaps.count(9), 3);
    }

    /** Promise 42. */
    private static void undo() {
        GoldenHeaps heaps = Check.loaded("rule a;stick 60 1;");
        Check.dueThrow("undo", heaps::undo, NoSuchElementException.class);
        for (int i = 1; i <= 11; i++) {
            heaps.move(0, 1, 0);
            Check.due("changes", heaps.count(10), Math.min(i, 8));
        }
        for (int i = 7; i >= 0; i--) {
            Check.due("undo", heaps.undo(), i);
            Check.due("units", heaps.count(11), 60 - 3 - i);
        }
        Check.dueThrow("undo", heaps::undo, NoSuchElementException.class);
        heaps.move(0, 1, 0);
        heaps.undo();
        heaps.move(0, 1, 0);
        heaps.move(0, 1, 0);
        Check.due("undone ones are kept no more", heaps.undo(), 1);
        Check.due("undo", heaps.undo(), 0);
        Check.due("units", heaps.count(11), 57);
    }

    private static void undoOfEachChange() {
        GoldenHeaps heaps = Check.loaded("rule a bar 1 0;board a 5 8;stick 7 3;first 1;");
        heaps.move(0, 2, 2);
        String before = all(heaps);
        heaps.move(1, 1, 0);
        heaps.follow(30);
        heaps.bar(0, 1, 0, false);
        heaps.setSlack(0, 4);
        heaps.setMost(0, 3);
        heaps.again(0);
        heaps.keep(1);
        Check.append(heaps, "rule b;");
        for (int i = 6; i > 0; i--) {
            Check.due("undo", heaps.undo(), i);
        }
        Check.due("all is as it was", all(heaps), before);
        Check.due("the input stays", heaps.truncateInput(7), true);
        Check.due("the snapshots stay", heaps.bringBack(1), 0);
        Check.due("SLACK", heaps.rule(0, 0), 4);
        heaps.setSlack(0, 2);
        heaps.loadHeaps();
        Check.append(heaps, "rule ?");
        heaps.loadHeaps();
        heaps.setSlack(0, 2);
        int written = heaps.printRule(0);
        heaps.undo();
        Check.due("the error stays", heaps.errorOffset(), 5);
        Check.due("the output stays", Check.output(heaps).length(), written);
        Check.dueThrow("not beyond the load", heaps::undo, NoSuchElementException.class);
    }

    private static String all(GoldenHeaps heaps) {
        StringBuilder all = new StringBuilder(Check.parts(heaps) + " " + Check.rule(heaps, 0));
        for (int what = 0; what <= 12; what++) {
            all.append(' ').append(what == 10 ? 0 : heaps.count(what));
        }
        for (int account = 0; account < 10; account++) {
            all.append(' ').append(heaps.account(account / 5, account % 5));
        }
        for (int index = 0; index < heaps.count(12); index++) {
            for (int what = 0; what < 5; what++) {
                all.append(' ').append(heaps.turn(index, what));
            }
        }
        return all.append(' ').append(heaps.value(0, 9, 9)).append(' ').append(heaps.span(0, 40, 39)).toString();
    }
}
