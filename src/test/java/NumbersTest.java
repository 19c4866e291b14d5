/** Promises 7 to 14: numbers of the whole, accounts, turns, rules and parts. */
final class NumbersTest {
    private static final String TEXT = "rule plain;rule mild only 1 2 slack 2 most 3 bar 2 2 bar 0 1;"
        + "board mild 3 2;stick 7 3;board plain 1 2;first 1;stick 0 9;";

    public static void main(String[] args) {
        count();
        gameNumbers();
        account();
        turn();
        turnsKept();
        rule();
        only();
        barred();
        letters();
        part();
        Check.finish("NumbersTest");
    }

    /** Promise 7. */
    private static void count() {
        GoldenHeaps heaps = Check.loaded(TEXT);
        // The moves of mild at 3, 2: (0,2) (1,0) (1,1) (1,2) (2,0) (2,1) (3,2); of the stick: 1 to 3.
        int[] due = {2, 2, 2, 1, 0, -2, 7 + 4 + 3, -2, 0, 1, 0, 3 + 2 + 1 + 2 + 7, 0};
        for (int what = 0; what < due.length; what++) {
            if (due[what] != -2) {
                Check.due("count(" + what + ")", heaps.count(what), due[what]);
            }
        }
        GoldenHeaps fresh = new GoldenHeaps();
        // At 5, 8 by the plain rule: to 5, 3 and to 4, 7.
        Check.due("winning moves", fresh.count(7), 2);
        Check.due("moves", fresh.count(6), 18);
        Check.noRange("count(13)", () -> heaps.count(13));
        Check.noRange("count(-1)", () -> heaps.count(-1));
        Check.noRange("count", () -> heaps.count(Integer.MIN_VALUE));
        GoldenHeaps sticks = Check.loaded("rule a;stick 7 3;stick 5 9;stick 12 3;");
        Check.due("TOTAL", sticks.count(5), 3 ^ 5 ^ 0);
        Check.due("moves", sticks.count(6), 3 + 5 + 3);
        Check.due("winning moves", sticks.count(7), 1);
        Check.due("units", sticks.count(11), 24);
    }

    private static void gameNumbers() {
        GoldenHeaps heaps = Check.loaded("rule a;stick 3 3;");
        heaps.move(0, 1, 0);
        Check.due("player", heaps.count(3), 1);
        Check.due("turns", heaps.count(4), 1);
        Check.due("over", heaps.count(8), 0);
        heaps.move(0, 2, 0);
        Check.due("over", heaps.count(8), 1);
        Check.due("moves", heaps.count(6), 0);
        Check.due("player", heaps.count(3), 0);
        Check.due("changes", heaps.count(10), 2);
        Check.due("turns kept", heaps.count(12), 2);
        heaps.again(1);
        Check.due("games", heaps.count(9), 2);
        Check.due("turns", heaps.count(4), 0);
        Check.due("turns kept", heaps.count(12), 2);
        Check.due("no parts", Check.loaded("rule a;").count(5), 0);
        // With heaps that no move fits the game is over though there are units.
        GoldenHeaps stuck = Check.loaded("rule a only 9 slack 0;board a 8 8;");
        Check.due("over", stuck.count(8), 1);
        Check.due("units", stuck.count(11), 16);
        stuck.setSlack(0, 1);
        Check.due("over no more", stuck.count(8), 0);
    }

    /** Promise 8. */
    private static void account() {
        GoldenHeaps heaps = Check.loaded("rule a;board a 2 3;stick 5 4;first 1;");
        // VALUE of 2, 3 is 5 and of 5, 4 is 0: so TOTAL is not 0.
        Check.due("TOTAL", heaps.count(5), heaps.value(0, 2, 3));
        heaps.move(1, 1, 0);
        Check.due("blunders", heaps.account(1, 4), 1);
        Check.due("turns", heaps.account(1, 0), 1);
        Check.due("units", heaps.account(1, 1), 1);
        int made = heaps.follow(600);
        Check.due("last turns", heaps.account(0, 2) + heaps.account(1, 2), 1);
        Check.due("last turn", heaps.account(heaps.turn(0, 0), 2), 1);
        Check.due("turns", heaps.account(0, 0) + heaps.account(1, 0), made + 1);
        Check.due("units", heaps.account(0, 1) + heaps.account(1, 1), 10);
        Check.due("winning moves", heaps.account(0, 3), heaps.account(0, 0));
        Check.due("winning moves", heaps.account(1, 3), 0);
        Check.due("blunders", heaps.account(0, 4), 0);
        Check.due("blunders", heaps.account(1, 4), 1);
        heaps.again(0);
        Check.due("since the load", heaps.account(0, 1) + heaps.account(1, 1), 10);
        // A move that cannot win is no blunder: 1, 2 is losing.
        GoldenHeaps lost = Check.loaded("rule a;board a 1 2;");
        lost.move(0, 1, 1);
        Check.due("no blunder", lost.account(0, 4), 0);
        Check.due("no winning move", lost.account(0, 3), 0);
        Check.due("units of both heaps", lost.account(0, 1), 2);
        Check.noIndex("account(2, 0)", () -> heaps.account(2, 0));
        Check.noIndex("account(-1, 9)", () -> heaps.account(-1, 9));
        Check.noRange("account(0, 5)", () -> heaps.account(0, 5));
        Check.noRange("account(1, -1)", () -> heaps.account(1, -1));
    }

    /** Promise 9. */
    private static void turn() {
        GoldenHeaps heaps = Check.loaded("rule a slack 2;board a 3 3;stick 5 4;first 1;");
        Check.noIndex("turn(0, 0)", () -> heaps.turn(0, 0));
        int first = heaps.move(0, 1, 2);
        int second = heaps.move(1, 3, 0);
        int[][] due = {{0, 1, 3, 0, second}, {1, 0, 1, 2, first}};
        Check.due("an allowed move", first >= 0, true);
        for (int index = 0; index < 2; index++) {
            for (int what = 0; what < 5; what++) {
                Check.due("turn(" + index + ", " + what + ")", heaps.turn(index, what), due[index][what]);
            }
        }
        heaps.setSlack(0, 5);
        Check.due("TOTAL as it was then", heaps.turn(0, 4), second);
        Check.noIndex("turn(2, 0)", () -> heaps.turn(2, 0));
        Check.noIndex("turn(-1, 7)", () -> heaps.turn(-1, 7));
        Check.noRange("turn(0, 5)", () -> heaps.turn(0, 5));
        Check.noRange("turn(0, -1)", () -> heaps.turn(0, -1));
    }

    private static void turnsKept() {
        GoldenHeaps heaps = Check.loaded("rule a;stick 60 1;");
        for (int i = 1; i <= 25; i++) {
            heaps.move(0, 1, 0);
            Check.due("turns kept", heaps.count(12), Math.min(i, 20));
            Check.due("turns", heaps.count(4), i);
        }
        Check.due("latest", heaps.turn(0, 0), 0);
        Check.due("TOTAL", heaps.turn(0, 4), 1);
        Check.due("oldest", heaps.turn(19, 0), 1);
        Check.noIndex("turn(20, 0)", () -> heaps.turn(20, 0));
        heaps.again(1);
        heaps.move(0, 1, 0);
        Check.due("of the earlier game", heaps.turn(1, 0), 0);
        Check.due("turns kept", heaps.count(12), 20);
        Check.due("turns of this game", heaps.count(4), 1);
    }

    /** Promise 10. */
    private static void rule() {
        GoldenHeaps heaps = Check.loaded(TEXT);
        int[][] due = {{1, 40, 0, 0, 1, -2, 31, 1, -2}, {2, 3, 2, 2, 0, -2, -2, 1, -2}};
        for (int rule = 0; rule < 2; rule++) {
            for (int what = 0; what < 9; what++) {
                if (due[rule][what] != -2) {
                    Check.due("rule(" + rule + ", " + what + ")", heaps.rule(rule, what), due[rule][what]);
                }
            }
            int value = 0;
            int span = 0;
            for (int place = 0; place < 1681; place++) {
                value = Math.max(value, heaps.value(rule, place / 41, place % 41));
                span = Math.max(span, heaps.span(rule, place / 41, place % 41));
            }
            Check.due("greatest VALUE", heaps.rule(rule, 5), value);
            Check.due("greatest SPAN", heaps.rule(rule, 8), span);
        }
        // Nim with takes of 1 and 2 on both heaps alone: VALUES 0 to 2 on each heap.
        GoldenHeaps nim = Check.loaded("rule a only 1 2 slack 0;");
        Check.due("greatest VALUE", nim.rule(0, 5), 3);
        Check.due("losing positions", nim.rule(0, 6), 14 * 14 + 14 * 14 + 13 * 13);
        Check.due("boards", nim.rule(0, 7), 0);
        GoldenHeaps boards = Check.loaded("rule a;rule b;rule c;board b 1 1;board a 1 1;stick 1 1;board b 2 2;");
        Check.due("boards", boards.rule(0, 7), 1);
        Check.due("boards", boards.rule(1, 7), 2);
        Check.due("boards", boards.rule(2, 7), 0);
        Check.due("not free", nim.rule(0, 4), 0);
        Check.due("free", Check.loaded("rule a slack 5;").rule(0, 4), 1);
        Check.due("not free", Check.loaded("rule a slack 0;").rule(0, 4), 0);
        Check.due("not free", Check.loaded("rule a most 39;").rule(0, 4), 0);
        Check.due("not free", Check.loaded("rule a bar 40 1;").rule(0, 4), 0);
        Check.noIndex("rule(1, 0)", () -> nim.rule(1, 0));
        Check.noIndex("rule(-1, 9)", () -> nim.rule(-1, 9));
        Check.noRange("rule(0, 9)", () -> nim.rule(0, 9));
        Check.noRange("rule(0, -1)", () -> nim.rule(0, -1));
    }

    /** Promise 11. */
    private static void only() {
        GoldenHeaps heaps = Check.loaded("rule a only 40 1 33 32;rule b;");
        int[] due = {1, 32, 33, 40, -1, -1};
        for (int index = 0; index < due.length; index++) {
            Check.due("only(0, " + index + ")", heaps.only(0, index), due[index]);
        }
        Check.due("only(0, -1)", heaps.only(0, -1), -1);
        Check.due("only(1, 0)", heaps.only(1, 0), -1);
        Check.noIndex("only(2, 0)", () -> heaps.only(2, 0));
        Check.noIndex("only(-1, 0)", () -> heaps.only(-1, 0));
    }

    /** Promise 12. */
    private static void barred() {
        GoldenHeaps heaps = Check.loaded("rule a bar 40 39 bar 0 7;");
        Check.due("k", heaps.barred(0, 0, false), 40);
        Check.due("l", heaps.barred(0, 0, true), 39);
        Check.due("k", heaps.barred(0, 1, false), 0);
        Check.due("l", heaps.barred(0, 1, true), 7);
        Check.due("none", heaps.barred(0, 2, false), -1);
        Check.due("none", heaps.barred(0, -1, true), -1);
        Check.noIndex("barred", () -> heaps.barred(1, 0, true));
        Check.noIndex("barred", () -> heaps.barred(-1, 0, true));
    }

    /** Promise 13. */
    private static void letters() {
        GoldenHeaps heaps = Check.loaded("rule azbyzzzz;rule q;");
        int[] due = {1, 26, 2, 25, 26, 26, 26, 26, 0, 0, 0, 0, 0};
        for (int index = 0; index < due.length; index++) {
            Check.due("letter " + index, heaps.ruleLetter(0, index), due[index]);
        }
        Check.due("letter", heaps.ruleLetter(1, 0), 17);
        Check.due("letter", heaps.ruleLetter(1, 1), 0);
        for (int index = 8; index < 80; index++) {
            Check.due("letter " + index, heaps.ruleLetter(0, index), 0);
            Check.due("letter " + (7 - index), heaps.ruleLetter(0, 7 - index), 0);
        }
        Check.due("letter", heaps.ruleLetter(1, Integer.MAX_VALUE), 0);
        Check.noIndex("letter", () -> heaps.ruleLetter(2, 0));
        Check.noIndex("letter", () -> heaps.ruleLetter(-1, 0));
    }

    /** Promise 14. */
    private static void part() {
        GoldenHeaps heaps = Check.loaded(TEXT);
        int[][] due = {{0, 1, 3, 2, -2, 7, -2, 3, 2}, {0, 0, 1, 2, 0, 4, -2, 1, 2}, {1, 3, 7, -1, 3, 3, -2, 7, -1},
            {1, 9, 0, -1, 0, 0, 0, 0, -1}};
        dueParts(heaps, due);
        int winning = 0;
        for (int part = 0; part < 4; part++) {
            winning += heaps.part(part, 6);
        }
        Check.due("winning moves", winning, heaps.count(7));
        heaps.move(2, 2, 0);
        heaps.move(0, 1, 2);
        due[2] = new int[] {1, 3, 5, -1, 1, 3, -2, 7, -1};
        due[0] = new int[] {0, 1, 2, 0, -2, 2, -2, 3, 2};
        dueParts(heaps, due);
        Check.noIndex("part(4, 0)", () -> heaps.part(4, 0));
        Check.noIndex("part(-1, 9)", () -> heaps.part(-1, 9));
        Check.noRange("part(0, 9)", () -> heaps.part(0, 9));
        Check.noRange("part(3, -1)", () -> heaps.part(3, -1));
        GoldenHeaps sticks = Check.loaded("rule a;stick 7 3;stick 5 9;");
        Check.due("winning moves", sticks.part(0, 6), 0);
        Check.due("winning moves", sticks.part(1, 6), 1);
    }

    private static void dueParts(GoldenHeaps heaps, int[][] due) {
        for (int part = 0; part < due.length; part++) {
            for (int what = 0; what < due[part].length; what++) {
                if (due[part][what] != -2) {
                    Check.due("part(" + part + ", " + what + ")", heaps.part(part, what), due[part][what]);
                }
            }
        }
    }
}
