/** Promises 1 to 6: a new object, the input buffer, the setup text and its errors. */
final class SetupTest {
    public static void main(String[] args) {
        newObject();
        append();
        truncate();
        load();
        loadReplaces();
        loadAgain();
        errorChangesNothing();
        syntax();
        endOfText();
        ranges();
        unknown();
        repeated();
        tooMany();
        smallestCode();
        Check.finish("SetupTest");
    }

    /** Promise 1. */
    private static void newObject() {
        GoldenHeaps heaps = new GoldenHeaps();
        Check.due("rule", Check.rule(heaps, 0), "rule plain slack 1 most 40");
        Check.due("parts", Check.parts(heaps), "plain:5,8");
        Check.due("rules", heaps.count(0), 1);
        Check.due("player", heaps.count(3), 0);
        Check.due("turns", heaps.count(4), 0);
        Check.due("games", heaps.count(9), 1);
        Check.due("changes", heaps.count(10), 0);
        Check.due("input", heaps.truncateInput(1), false);
        GoldenHeaps fresh = new GoldenHeaps();
        Check.due("output", fresh.outputByte(0), -1);
        Check.dueThrow("undo", fresh::undo, java.util.NoSuchElementException.class);
    }

    /** Promise 2. */
    private static void append() {
        GoldenHeaps heaps = new GoldenHeaps();
        int[] rule = {0x72756c65, 0x20613b62, 0x6f617264, 0x20612031, 0x20323b0a}; // "rule a;board a 1 2;\n"
        Check.due("append", heaps.appendInput(rule[0], rule[1], rule[2], rule[3], rule[4]), 20);
        Check.due("append", heaps.appendInput(rule[0], rule[1], rule[2], rule[3], rule[4]), 40);
        Check.due("truncate", heaps.truncateInput(20), true);
        Check.due("load", heaps.loadHeaps(), 1);
        Check.due("parts", Check.parts(heaps), "a:1,2");
        for (int i = 1; i <= 30; i++) {
            Check.due("append", heaps.appendInput(0, 0, 0, 0, 0), 20 * i);
        }
        Check.due("append behind 600", heaps.appendInput(0, 0, 0, 0, 0), -1);
        Check.due("truncate", heaps.truncateInput(600), true);
        Check.due("truncate", heaps.truncateInput(581), true);
        Check.due("append behind 581", heaps.appendInput(0, 0, 0, 0, 0), -1);
        Check.due("no change", heaps.truncateInput(582), false);
        Check.due("truncate", heaps.truncateInput(580), true);
        Check.due("append behind 580", heaps.appendInput(0, 0, 0, 0, 0), 600);
    }

    /** Promise 3. */
    private static void truncate() {
        GoldenHeaps heaps = new GoldenHeaps();
        Check.due("truncate nothing", heaps.truncateInput(0), true);
        Check.append(heaps, "rule a;rule b;");
        Check.due("truncate", heaps.truncateInput(-1), false);
        Check.due("truncate", heaps.truncateInput(15), false);
        Check.due("truncate", heaps.truncateInput(Integer.MIN_VALUE), false);
        Check.due("truncate", heaps.truncateInput(14), true);
        Check.due("truncate", heaps.truncateInput(7), true);
        Check.due("truncate", heaps.truncateInput(8), false);
        Check.due("load", heaps.loadHeaps(), 0);
        Check.due("rules", heaps.count(0), 1);
    }

    /** Promises 4 to 6. */
    private static void load() {
        GoldenHeaps heaps = new GoldenHeaps();
        Check.due("error", heaps.errorCode(), GoldenHeaps.NO_ERROR);
        Check.due("offset", heaps.errorOffset(), -1);
        Check.append(heaps, "stick 60 9;rule rule only 7 3 slack 0 most 40 bar 3 0 bar 0 40;first 1;\n"
            + " board rule 40 0;rule slack slack 5;stick 0 1;board slack 007 8;");
        Check.due("load", heaps.loadHeaps(), 4);
        Check.due("error", heaps.errorCode(), GoldenHeaps.NO_ERROR);
        Check.due("offset", heaps.errorOffset(), -1);
        Check.due("rule", Check.rule(heaps, 0), "rule rule only 3 7 slack 0 most 40 bar 3 0 bar 0 40");
        Check.due("rule", Check.rule(heaps, 1), "rule slack slack 5 most 40");
        Check.due("parts", Check.parts(heaps), "rule:40,0 slack:7,8 60/9 0/1");
        Check.due("player", heaps.count(3), 1);
        Check.due("the buffer is empty", heaps.truncateInput(1), false);
        Check.due("load of nothing", heaps.loadHeaps(), -1);
        Check.due("error", heaps.errorCode(), GoldenHeaps.SYNTAX);
        Check.due("offset", heaps.errorOffset(), 0);
        Check.append(heaps, "rule a");
        Check.due("load", heaps.loadHeaps(), -1);
        Check.due("the buffer is empty", heaps.truncateInput(1), false);
        Check.due("offset", heaps.errorOffset(), 6);
        Check.append(heaps, "rule a1;");
        Check.due("load", heaps.loadHeaps(), -1);
        Check.due("offset", heaps.errorOffset(), 6);
        Check.due("four of each", Check.parts(Check.loaded("rule a;rule b;rule c;rule d;board a 0 0;board b 1 1;"
            + "board c 2 2;board d 3 3;stick 1 1;stick 2 2;stick 3 3;stick 4 4;")),
            "a:0,0 b:1,1 c:2,2 d:3,3 1/1 2/2 3/3 4/4");
        Check.due("tokens without spaces", Check.rule(Check.loaded("rule\nabcdefgh only1 2slack0most1bar1 0bar0 1;"), 0),
            "rule abcdefgh only 1 2 slack 0 most 1 bar 1 0 bar 0 1");
        Check.due("keywords as names", Check.rule(Check.loaded("rule only only 40 ;"), 0),
            "rule only only 40 slack 1 most 40");
    }

    private static void loadReplaces() {
        GoldenHeaps heaps = Check.loaded("rule a;board a 3 3;stick 4 2;first 1;");
        heaps.move(0, 1, 1);
        heaps.keep(0);
        heaps.again(0);
        int written = heaps.printParts();
        Check.append(heaps, "rule b;");
        Check.due("load", heaps.loadHeaps(), 0);
        Check.due("output stays", Check.output(heaps).length(), written);
        Check.due("player", heaps.count(3), 0);
        Check.due("turns", heaps.count(4), 0);
        Check.due("games", heaps.count(9), 1);
        Check.due("changes", heaps.count(10), 0);
        Check.due("turns kept", heaps.count(12), 0);
        Check.due("account", heaps.account(1, 0), 0);
        Check.dueThrow("bringBack", () -> heaps.bringBack(0), java.util.NoSuchElementException.class);
        Check.due("no parts", Check.parts(heaps), "");
        Check.due("over", heaps.count(8), 1);
    }

    /** One object, several texts: nothing of an earlier one is left. */
    private static void loadAgain() {
        GoldenHeaps heaps = new GoldenHeaps();
        dueLike(heaps, "rule a only 1 slack 0 most 9 bar 1 0;board a 9 9;board a 8 8;board a 7 7;board a 5 2;"
            + "stick 9 3;stick 8 3;stick 7 3;stick 6 3;first 1;");
        dueLike(heaps, "rule a only 2 slack 0 most 9 bar 1 0;board a 9 9;");
        dueLike(heaps, "rule a only 2 slack 0 most 9 bar 2 0;board a 9 8;stick 5 3;");
        dueLike(heaps, "rule a only 2 slack 0 most 9 bar 0 2;board a 9 8;");
        dueLike(heaps, "rule a only 2 slack 0 most 9;");
        dueLike(heaps, "rule a;rule b bar 1 1 bar 2 2;board b 5 5;");
        dueLike(heaps, "rule a;rule b bar 1 1 bar 3 3;board b 5 5;");
        dueLike(heaps, "rule a;rule b most 3;board b 5 5;");
        dueLike(heaps, "rule q;");
        Check.append(heaps, "rule ;");
        Check.due("load", heaps.loadHeaps(), -1);
        dueLike(heaps, "rule a;rule b slack 3;board b 5 5;board a 0 1;stick 1 1;");
    }

    private static void dueLike(GoldenHeaps heaps, String text) {
        Check.append(heaps, text);
        GoldenHeaps fresh = Check.loaded(text);
        Check.due("load of " + text, heaps.loadHeaps(), fresh.count(1) + fresh.count(2));
        Check.due("error", heaps.errorCode(), GoldenHeaps.NO_ERROR);
        Check.due("offset", heaps.errorOffset(), -1);
        Check.due("parts", Check.parts(heaps), Check.parts(fresh));
        for (int what = 0; what <= 12; what++) {
            Check.due("count(" + what + ") of " + text, heaps.count(what), fresh.count(what));
        }
        for (int rule = 0; rule < fresh.count(0); rule++) {
            Check.due("rule", Check.rule(heaps, rule), Check.rule(fresh, rule));
            Check.dueSameTable(heaps, fresh, rule);
        }
    }

    private static void errorChangesNothing() {
        GoldenHeaps heaps = Check.loaded("rule a;board a 3 3;first 1;");
        heaps.move(0, 1, 1);
        heaps.keep(1);
        Check.append(heaps, "rule b;board b 9 9;first 0;stick 3 0;");
        Check.due("load", heaps.loadHeaps(), -1);
        Check.due("error", heaps.errorCode(), GoldenHeaps.OUT_OF_RANGE);
        Check.due("offset", heaps.errorOffset(), 35);
        Check.due("parts", Check.parts(heaps), "a:2,2");
        Check.due("turns kept", heaps.count(12), 1);
        Check.due("changes", heaps.count(10), 1);
        Check.due("snapshot", heaps.bringBack(1), 1);
    }

    private static void syntax() {
        Check.dueError(";", GoldenHeaps.SYNTAX, 0);
        Check.dueError("rule a;;", GoldenHeaps.SYNTAX, 7);
        Check.dueError("rules a;", GoldenHeaps.SYNTAX, 0);
        Check.dueError("tule a;", GoldenHeaps.SYNTAX, 0);
        Check.dueError("rulf a;", GoldenHeaps.SYNTAX, 0);
        Check.dueError("rul a;", GoldenHeaps.SYNTAX, 0);
        Check.dueError("rule a;coard a 1 1;", GoldenHeaps.SYNTAX, 7);
        Check.dueError("rule a far 1 1;", GoldenHeaps.SYNTAX, 7);
        Check.dueError("7 a;", GoldenHeaps.SYNTAX, 0);
        Check.dueError("rule 7;", GoldenHeaps.SYNTAX, 5);
        Check.dueError("rule ;", GoldenHeaps.SYNTAX, 5);
        Check.dueError("rule abcdefghi;", GoldenHeaps.SYNTAX, 5);
        Check.dueError("rule abcdefgh;board abcdefghi 1 1;", GoldenHeaps.SYNTAX, 20);
        Check.dueError("rule a only;", GoldenHeaps.SYNTAX, 11);
        Check.dueError("rule a only slack 1;", GoldenHeaps.SYNTAX, 12);
        Check.dueError("rule a slack 1 only 2;", GoldenHeaps.SYNTAX, 15);
        Check.dueError("rule a most 1 slack 2;", GoldenHeaps.SYNTAX, 14);
        Check.dueError("rule a slack 1 slack 2;", GoldenHeaps.SYNTAX, 15);
        Check.dueError("rule a bar 1 1 most 2;", GoldenHeaps.SYNTAX, 15);
        Check.dueError("rule a bar 1;", GoldenHeaps.SYNTAX, 12);
        Check.dueError("rule a bar;", GoldenHeaps.SYNTAX, 10);
        Check.dueError("rule a 3;", GoldenHeaps.SYNTAX, 7);
        Check.dueError("rule a slack 0001;", GoldenHeaps.SYNTAX, 13);
        Check.dueError("rule a only 1 0002;", GoldenHeaps.SYNTAX, 14);
        Check.dueError("rule a;board a 1 2 3;", GoldenHeaps.SYNTAX, 19);
        Check.dueError("rule a;board a 1;", GoldenHeaps.SYNTAX, 16);
        Check.dueError("rule a;board a;", GoldenHeaps.SYNTAX, 14);
        Check.dueError("rule a;stick 1;", GoldenHeaps.SYNTAX, 14);
        Check.dueError("rule a;stick a 1;", GoldenHeaps.SYNTAX, 13);
        Check.dueError("rule a;first;", GoldenHeaps.SYNTAX, 12);
        Check.dueError("rule a;first 0 1;", GoldenHeaps.SYNTAX, 15);
        Check.dueError("rule A;", GoldenHeaps.SYNTAX, 5);
        Check.dueError("rule aB;", GoldenHeaps.SYNTAX, 6);
        Check.dueError("rule a;\t", GoldenHeaps.SYNTAX, 7);
        Check.dueError("rule a;\r\n", GoldenHeaps.SYNTAX, 7);
        Check.dueError("rule a;\u00ff", GoldenHeaps.SYNTAX, 7);
        Check.dueError("rule a only 1,2;", GoldenHeaps.SYNTAX, 13);
        Check.dueError("rule a;stick -1 2;", GoldenHeaps.SYNTAX, 13);
        Check.dueError("rule a;stick 1\u00002;", GoldenHeaps.SYNTAX, 14);
    }

    private static void endOfText() {
        Check.dueError("", GoldenHeaps.SYNTAX, 0);
        Check.dueError(" \n ", GoldenHeaps.SYNTAX, 3);
        Check.dueError("stick 5 2;", GoldenHeaps.SYNTAX, 10);
        Check.dueError("stick 5 2; first 1; ", GoldenHeaps.SYNTAX, 20);
        Check.dueError("rule", GoldenHeaps.SYNTAX, 4);
        Check.dueError("rule a  ", GoldenHeaps.SYNTAX, 8);
        Check.dueError("rule a only", GoldenHeaps.SYNTAX, 11);
        Check.dueError("rule a only 1", GoldenHeaps.SYNTAX, 13);
        Check.dueError("rule a;board a 1 1", GoldenHeaps.SYNTAX, 18);
        Check.dueError("rule a;board", GoldenHeaps.SYNTAX, 12);
        Check.dueError("rule a;stick 1 1", GoldenHeaps.SYNTAX, 16);
        Check.dueError("rule a;first 1", GoldenHeaps.SYNTAX, 14);
        Check.dueError("rule a bar 1 2", GoldenHeaps.SYNTAX, 14);
    }

    private static void ranges() {
        Check.dueError("rule a only 0;", GoldenHeaps.OUT_OF_RANGE, 12);
        Check.dueError("rule a only 41;", GoldenHeaps.OUT_OF_RANGE, 12);
        Check.dueError("rule a only 1 64;", GoldenHeaps.OUT_OF_RANGE, 14);
        Check.dueError("rule a slack 6;", GoldenHeaps.OUT_OF_RANGE, 13);
        Check.dueError("rule a most 0;", GoldenHeaps.OUT_OF_RANGE, 12);
        Check.dueError("rule a most 41;", GoldenHeaps.OUT_OF_RANGE, 12);
        Check.dueError("rule a bar 41 0;", GoldenHeaps.OUT_OF_RANGE, 11);
        Check.dueError("rule a bar 40 41;", GoldenHeaps.OUT_OF_RANGE, 14);
        Check.dueError("rule a bar 0 0;", GoldenHeaps.OUT_OF_RANGE, 13);
        Check.dueError("rule a;board a 41 0;", GoldenHeaps.OUT_OF_RANGE, 15);
        Check.dueError("rule a;board a 40 999;", GoldenHeaps.OUT_OF_RANGE, 18);
        Check.dueError("rule a;stick 61 1;", GoldenHeaps.OUT_OF_RANGE, 13);
        Check.dueError("rule a;stick 60 0;", GoldenHeaps.OUT_OF_RANGE, 16);
        Check.dueError("rule a;stick 60 10;", GoldenHeaps.OUT_OF_RANGE, 16);
        Check.dueError("rule a;first 2;", GoldenHeaps.OUT_OF_RANGE, 13);
    }

    private static void unknown() {
        Check.dueError("rule a;board b 1 1;", GoldenHeaps.UNKNOWN, 13);
        Check.dueError("rule a;board ab 1 1;", GoldenHeaps.UNKNOWN, 13);
        Check.dueError("rule ab;board a 1 1;", GoldenHeaps.UNKNOWN, 14);
        Check.dueError("board a 1 1;rule a;", GoldenHeaps.UNKNOWN, 6);
        Check.dueError("board plain 1 1;rule a;", GoldenHeaps.UNKNOWN, 6);
    }

    private static void repeated() {
        Check.dueError("rule a;rule a;", GoldenHeaps.REPEATED, 12);
        Check.dueError("rule a;rule b;rule a slack 9;", GoldenHeaps.REPEATED, 19);
        Check.dueError("rule a only 5 3 5;", GoldenHeaps.REPEATED, 16);
        Check.dueError("rule a only 5 005;", GoldenHeaps.REPEATED, 14);
        Check.dueError("rule a bar 1 2 bar 1 2;", GoldenHeaps.REPEATED, 21);
        Check.due("other order", Check.rule(Check.loaded("rule a bar 1 2 bar 2 1;"), 0),
            "rule a slack 1 most 40 bar 1 2 bar 2 1");
        Check.due("of another rule", Check.rule(Check.loaded("rule a only 5 bar 1 2;rule b only 5 bar 1 2;"), 1),
            "rule b only 5 slack 1 most 40 bar 1 2");
        Check.dueError("first 1;first 1;rule a;", GoldenHeaps.REPEATED, 8);
        Check.dueError("first 1;rule a;first;", GoldenHeaps.REPEATED, 15);
    }

    private static void tooMany() {
        Check.dueError("rule a;rule b;rule c;rule d;rule a;", GoldenHeaps.TOO_MANY, 28);
        Check.dueError("rule a;board a 1 1;board a 1 1;board a 1 1;board a 1 1;board;", GoldenHeaps.TOO_MANY, 55);
        Check.dueError("stick 1 1;stick 1 1;stick 1 1;stick 1 1;stick", GoldenHeaps.TOO_MANY, 40);
        Check.dueError("rule a only 1 2 3 4 5 6 7 8 9;", GoldenHeaps.TOO_MANY, 28);
        Check.dueError("rule a bar 1 0 bar 2 0 bar 3 0 bar 4 0 bar;", GoldenHeaps.TOO_MANY, 39);
    }

    private static void smallestCode() {
        Check.dueError("rule a only 1 2 3 4 5 6 7 8 8;", GoldenHeaps.REPEATED, 28);
        Check.dueError("rule a only 1 2 3 4 5 6 7 8 41;", GoldenHeaps.OUT_OF_RANGE, 28);
        Check.dueError("rule a only 1 2 3 4 5 6 7 8 0001;", GoldenHeaps.SYNTAX, 28);
        Check.dueError("rule a only 1 2 3 4 5 6 7 8#9;", GoldenHeaps.SYNTAX, 27);
        Check.due("eight", Check.rule(Check.loaded("rule a only 8 7 6 5 4 3 2 1;"), 0),
            "rule a only 1 2 3 4 5 6 7 8 slack 1 most 40");
    }
}
