import java.util.NoSuchElementException;

/** Promises 43 to 47: what is written, and snapshots. */
final class KeptTest {
    public static void main(String[] args) {
        printParts();
        printRule();
        outputByte();
        keep();
        bringBack();
        Check.finish("KeptTest");
    }

    /** Promise 43. */
    private static void printParts() {
        GoldenHeaps heaps = Check.loaded("rule a;rule abcdefgh;stick 60 9;board abcdefgh 40 0;board a 9 10;stick 0 1;");
        Check.due("parts", Check.parts(heaps), "abcdefgh:40,0 a:9,10 60/9 0/1");
        heaps.move(0, 30, 0);
        heaps.move(2, 1, 0);
        Check.due("parts", Check.parts(heaps), "abcdefgh:10,0 a:9,10 59/9 0/1");
        Check.due("one part", Check.parts(Check.loaded("rule a;stick 5 2;")), "5/2");
        GoldenHeaps none = Check.loaded("rule a;");
        none.printRule(0);
        Check.due("no parts", none.printParts(), 0);
        Check.due("no bytes", none.outputByte(0), -1);
    }

    /** Promise 44. */
    private static void printRule() {
        GoldenHeaps heaps = Check.loaded("rule zz only 40 9 10 1 slack 0 most 9 bar 10 0 bar 0 40;rule b;");
        Check.due("rule", Check.rule(heaps, 0), "rule zz only 1 9 10 40 slack 0 most 9 bar 10 0 bar 0 40");
        Check.due("rule", Check.rule(heaps, 1), "rule b slack 1 most 40");
        heaps.setSlack(1, 5);
        heaps.setMost(1, 10);
        heaps.bar(1, 7, 7, true);
        Check.due("rule", Check.rule(heaps, 1), "rule b slack 5 most 10 bar 7 7");
        Check.due("the longest one", Check.rule(Check.loaded("rule abcdefgh only 40 39 38 37 36 35 34 33 slack 5 most 40 "
            + "bar 40 40 bar 39 40 bar 40 39 bar 38 38;"), 0).length(), 98);
        Check.noIndex("printRule(2)", () -> heaps.printRule(2));
        Check.noIndex("printRule(-1)", () -> heaps.printRule(-1));
        Check.due("the output stays", Check.output(heaps), "rule b slack 5 most 10 bar 7 7");
    }

    /** Promise 45. */
    private static void outputByte() {
        GoldenHeaps heaps = new GoldenHeaps();
        Check.due("nothing", heaps.outputByte(0), -1);
        Check.due("bytes", heaps.printParts(), 9);
        String due = "plain:5,8";
        for (int index = 0; index < 9; index++) {
            Check.due("byte " + index, heaps.outputByte(index), (int) due.charAt(index));
        }
        Check.due("no byte", heaps.outputByte(9), -1);
        Check.due("no byte", heaps.outputByte(-1), -1);
        Check.due("no byte", heaps.outputByte(Integer.MAX_VALUE), -1);
        heaps.printRule(0);
        heaps.printParts();
        Check.due("in place of what it had", heaps.outputByte(9), -1);
    }

    /** Promise 46. */
    private static void keep() {
        GoldenHeaps heaps = Check.loaded("rule a;board a 5 8;first 1;");
        Check.due("keep", heaps.keep(0), 0);
        heaps.follow(2);
        Check.due("keep", heaps.keep(1), 2);
        Check.due("no change", heaps.count(10), 1);
        heaps.follow(1);
        Check.due("keep", heaps.keep(1), 3);
        heaps.again(0);
        Check.due("in place of the earlier one", heaps.bringBack(1), 3);
        Check.due("the other one", heaps.bringBack(0), 0);
        Check.due("parts", Check.parts(heaps), "a:5,8");
        Check.due("player", heaps.count(3), 1);
        Check.noRange("keep(2)", () -> heaps.keep(2));
        Check.noRange("keep(-1)", () -> heaps.keep(-1));
    }

    /** Promise 47. */
    private static void bringBack() {
        GoldenHeaps heaps = Check.loaded("rule a bar 2 0;board a 5 8;stick 9 4;");
        Check.dueThrow("nothing kept", () -> heaps.bringBack(0), NoSuchElementException.class);
        Check.noRange("bringBack(2)", () -> heaps.bringBack(2));
        Check.noRange("bringBack(-1)", () -> heaps.bringBack(-1));
        heaps.move(0, 1, 1);
        heaps.keep(1);
        Check.dueThrow("nothing kept", () -> heaps.bringBack(0), NoSuchElementException.class);
        Check.due("changes", heaps.count(10), 1);
        heaps.move(1, 4, 0);
        heaps.bar(0, 2, 0, false);
        heaps.setSlack(0, 3);
        heaps.setMost(0, 2);
        heaps.again(1);
        int written = heaps.printParts();
        Check.append(heaps, "rule");
        Check.due("bringBack", heaps.bringBack(1), 1);
        Check.due("the output stays", Check.output(heaps).length(), written);
        Check.due("the input stays", heaps.truncateInput(4), true);
        Check.due("nothing to undo", heaps.count(10), 0);
        Check.dueThrow("nothing to undo", heaps::undo, NoSuchElementException.class);
        Check.due("parts", Check.parts(heaps), "a:4,7 9/4");
        Check.due("rule", Check.rule(heaps, 0), "rule a slack 1 most 40 bar 2 0");
        Check.due("player", heaps.count(3), 1);
        Check.due("games", heaps.count(9), 1);
        Check.due("turns kept", heaps.count(12), 1);
        Check.due("account", heaps.account(1, 0) + heaps.account(0, 0), 1);
        Check.due("reason", heaps.whyNot(0, 2, 0), 7);
        heaps.follow(600);
        Check.due("it stays kept", heaps.bringBack(1), 1);
        Check.due("parts", Check.parts(heaps), "a:4,7 9/4");
    }
}
