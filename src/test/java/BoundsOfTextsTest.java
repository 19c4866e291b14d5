import java.util.NoSuchElementException;

/** The sentences of promises 1 to 6 and of section 6 that name a boundary case; each has a test of its own. */
final class BoundsOfTextsTest {
    private static final int SYNTAX = GoldenHeaps.SYNTAX;
    private static final int OUT_OF_RANGE = GoldenHeaps.OUT_OF_RANGE;
    private static final int UNKNOWN = GoldenHeaps.UNKNOWN;
    private static final int REPEATED = GoldenHeaps.REPEATED;
    private static final int TOO_MANY = GoldenHeaps.TOO_MANY;

    private static final String[] KEYWORDS = {"rule", "only", "slack", "most", "bar", "board", "stick", "first"};

    public static void main(String[] args) {
        newObjectAsByTheText();
        emptyInput();
        bytesInOrder();
        newLength();
        wouldExceed();
        truncateWithinTheLength();
        truncateRefused();
        loadEmptiesTheBuffer();
        loadAnswersParts();
        noErrorWithoutCall();
        errorOfTheLatestCall();
        fullBuffer();
        semicolons();
        defaults();
        bracesMeanNone();
        firstOnce();
        nameLetters();
        nameMayBeAnyWord();
        differentNames();
        longestWords();
        digits();
        bytesBetweenTokens();
        spacesMayBeLeftOut();
        firstErrorMet();
        smallestCode();
        wrongPlaces();
        longWordAsName();
        longNumbers();
        endOfText();
        noRule();
        rangesOfNumbers();
        secondNumberOfABar();
        unknownNames();
        repeatedThings();
        tooManyThings();
        errorChangesNothing();
        loadReplaces();
        Check.finish("BoundsOfTextsTest");
    }

    private static String numbers(int most) {
        StringBuilder numbers = new StringBuilder();
        for (int n = 1; n <= most; n++) {
            numbers.append(' ').append(n);
        }
        return numbers.toString();
    }

    private static String many(String statement, int times) {
        return statement.repeat(times);
    }

    // ---- promises 1 to 6

    /** "Creates a game as by the text "rule plain; board plain 5 8;"". */
    private static void newObjectAsByTheText() {
        GoldenHeaps heaps = new GoldenHeaps();
        GoldenHeaps loaded = Check.loaded("rule plain; board plain 5 8;");
        Check.due("a new object", Whole.of(heaps), Whole.of(loaded));
        Check.dueThrow("nothing to undo", heaps::undo, NoSuchElementException.class);
        Check.dueThrow("no snapshot", () -> heaps.bringBack(0), NoSuchElementException.class);
        Check.dueThrow("no snapshot", () -> heaps.bringBack(1), NoSuchElementException.class);
        Check.due("no output", heaps.outputByte(0), -1);
    }

    /** "with an empty input buffer". */
    private static void emptyInput() {
        GoldenHeaps heaps = new GoldenHeaps();
        Check.due("length 1", heaps.truncateInput(1), false);
        Check.due("length 0", heaps.truncateInput(0), true);
        Check.due("the first bytes", heaps.appendInput(0, 0, 0, 0, 0), 20);
        GoldenHeaps empty = new GoldenHeaps();
        Check.due("load of nothing", empty.loadHeaps(), -1);
        Check.due("its offset", empty.errorOffset(), 0);
    }

    /** "Appends 20 bytes: the four bytes of each parameter, the most significant byte first." */
    private static void bytesInOrder() {
        // A byte at each of the 20 places that belongs to no token, with its highest bit set.
        for (int place = 0; place < 20; place++) {
            int[] fours = {0x20202020, 0x20202020, 0x20202020, 0x20202020, 0x20202020};
            fours[place / 4] ^= 0xd0 << 24 - place % 4 * 8;
            GoldenHeaps heaps = new GoldenHeaps();
            heaps.appendInput(fours[0], fours[1], fours[2], fours[3], fours[4]);
            heaps.loadHeaps();
            Check.due("place of the byte", heaps.errorOffset(), place);
        }
    }

    /** "Returns the new length of the input buffer". */
    private static void newLength() {
        GoldenHeaps heaps = new GoldenHeaps();
        Check.due("20", heaps.appendInput(-1, -1, -1, -1, -1), 20);
        heaps.truncateInput(1);
        Check.due("21", heaps.appendInput(-1, -1, -1, -1, -1), 21);
        heaps.loadHeaps();
        Check.due("20 again", heaps.appendInput(-1, -1, -1, -1, -1), 20);
    }

    /** "-1, with no change, if it would exceed 600." */
    private static void wouldExceed() {
        for (int length = 578; length <= 600; length++) {
            GoldenHeaps heaps = new GoldenHeaps();
            for (int i = 0; i < 30; i++) {
                heaps.appendInput(0, 0, 0, 0, 0);
            }
            heaps.truncateInput(length);
            Check.due("behind " + length, heaps.appendInput(1, 2, 3, 4, 5), length <= 580 ? length + 20 : -1);
            Check.due("length behind it", Whole.inputLength(heaps), length <= 580 ? length + 20 : length);
        }
        GoldenHeaps heaps = new GoldenHeaps();
        Check.append(heaps, " ".repeat(592) + "rule ab;");
        Check.due("full", heaps.appendInput(0, 0, 0, 0, 0), -1);
        Check.due("what it has stays", heaps.loadHeaps(), 0);
        Check.due("the name", heaps.ruleLetter(0, 1), 2);
    }

    /** "Truncates the input buffer. Returns true". */
    private static void truncateWithinTheLength() {
        GoldenHeaps heaps = new GoldenHeaps();
        Check.append(heaps, "rule a;rule b;");
        Check.due("its own length", heaps.truncateInput(14), true);
        Check.due("one less", heaps.truncateInput(13), true);
        Check.due("half of it", heaps.truncateInput(7), true);
        Check.due("load", heaps.loadHeaps(), 0);
        Check.due("the first half", heaps.count(0), 1);
        Check.append(heaps, "rule b;");
        Check.due("none of it", heaps.truncateInput(0), true);
        Check.due("load", heaps.loadHeaps(), -1);
        Check.due("at once", heaps.errorOffset(), 0);
    }

    /** "false, with no change, if length is negative or greater than the current length." */
    private static void truncateRefused() {
        GoldenHeaps heaps = new GoldenHeaps();
        Check.append(heaps, "rule a;");
        int[] refused = {-1, -7, 8, 20, 600, Integer.MAX_VALUE, Integer.MIN_VALUE};
        for (int length : refused) {
            Check.due("length " + length, heaps.truncateInput(length), false);
        }
        Check.due("no change", heaps.loadHeaps(), 0);
        Check.due("no change", heaps.ruleLetter(0, 0), 1);
    }

    /** "Loads a setup from the input buffer and empties the buffer, whether the load succeeds or not." */
    private static void loadEmptiesTheBuffer() {
        String[] texts = {"rule a;", "rule a", "", "#", "rule a;stick 61 1;"};
        for (String text : texts) {
            GoldenHeaps heaps = new GoldenHeaps();
            Check.append(heaps, text);
            heaps.loadHeaps();
            Check.due("length behind " + text, heaps.truncateInput(1), false);
            Check.due("length behind " + text, heaps.appendInput(0, 0, 0, 0, 0), 20);
        }
    }

    /** "Returns the number of parts; -1 if there is an error." */
    private static void loadAnswersParts() {
        String all = "rule a;" + many("board a 1 1;", 4) + many("stick 1 1;", 4);
        String[] texts = {"rule a;", "rule a;board a 0 0;", "rule a;stick 0 1;", all, all + "stick 1 1;", "rule a;;"};
        int[] due = {0, 1, 1, 8, -1, -1};
        for (int i = 0; i < texts.length; i++) {
            GoldenHeaps heaps = new GoldenHeaps();
            Check.append(heaps, texts[i]);
            Check.due("load of " + texts[i], heaps.loadHeaps(), due[i]);
        }
    }

    /** "NO_ERROR if that call succeeded or there was no call." "-1 if errorCode() is NO_ERROR." */
    private static void noErrorWithoutCall() {
        GoldenHeaps heaps = new GoldenHeaps();
        Check.due("without a call", heaps.errorCode(), GoldenHeaps.NO_ERROR);
        Check.due("without a call", heaps.errorOffset(), -1);
        Check.append(heaps, "rule a");
        Check.due("before the call", heaps.errorCode(), GoldenHeaps.NO_ERROR);
        heaps.loadHeaps();
        Check.due("a fault", heaps.errorCode(), SYNTAX);
        Check.due("a fault", heaps.errorOffset(), 6);
        Check.append(heaps, "rule a;");
        Check.due("until the next call", heaps.errorCode(), SYNTAX);
        heaps.loadHeaps();
        Check.due("a success", heaps.errorCode(), GoldenHeaps.NO_ERROR);
        Check.due("a success", heaps.errorOffset(), -1);
    }

    /** "Returns the error of the latest call of loadHeaps." */
    private static void errorOfTheLatestCall() {
        GoldenHeaps heaps = new GoldenHeaps();
        String[] texts = {"rule a;stick 61 1;", "rule a", "rule a;board b 1 1;", "rule a;rule a;", "rule a;"};
        int[] codes = {OUT_OF_RANGE, SYNTAX, UNKNOWN, REPEATED, GoldenHeaps.NO_ERROR};
        int[] offsets = {13, 6, 13, 12, -1};
        for (int i = 0; i < texts.length; i++) {
            Check.append(heaps, texts[i]);
            heaps.loadHeaps();
            Check.due("code of " + texts[i], heaps.errorCode(), codes[i]);
            Check.due("offset of " + texts[i], heaps.errorOffset(), offsets[i]);
        }
    }

    // ---- section 6: the form

    /** "The input buffer holds at most 600 bytes.": all of them are read. */
    private static void fullBuffer() {
        Check.due("a full text", Check.parts(Check.loaded("rule a;" + " ".repeat(581) + "board a 1 2;")), "a:1,2");
        Check.due("a full text", Check.loaded("rule a;" + "\n".repeat(593)).count(0), 1);
        Check.dueError("rule a;" + " ".repeat(592) + "#", SYNTAX, 599);
        Check.dueError("rule a;" + " ".repeat(582) + "board a 1 2", SYNTAX, 600);
        Check.dueError(" ".repeat(600), SYNTAX, 600);
        Check.dueError("rule a only " + "7 ".repeat(294), REPEATED, 14);
        Check.dueError("rule " + "a".repeat(595), SYNTAX, 5);
        Check.dueError("rule a most " + "1".repeat(588), SYNTAX, 12);
    }

    /** "a sequence of statements, each followed by a semicolon". */
    private static void semicolons() {
        Check.dueError("rule a", SYNTAX, 6);
        Check.dueError("rule a board a 1 1;", SYNTAX, 7);
        Check.dueError("rule a;board a 1 1 stick 1 1;", SYNTAX, 19);
        Check.dueError("rule a;stick 1 1 first 0;", SYNTAX, 17);
        Check.dueError("rule a;first 0 rule b;", SYNTAX, 15);
        Check.dueError(";rule a;", SYNTAX, 0);
        Check.dueError("rule a;;", SYNTAX, 7);
        Check.dueError("rule a ; ;", SYNTAX, 9);
    }

    /** "SLACK is 1 and MOST 40 without them"; first: "0 without it". */
    private static void defaults() {
        GoldenHeaps heaps = Check.loaded("rule a;rule b slack 2;rule c most 3;rule d only 4 bar 5 5;");
        Check.due("both left out", Check.rule(heaps, 0), "rule a slack 1 most 40");
        Check.due("MOST left out", Check.rule(heaps, 1), "rule b slack 2 most 40");
        Check.due("SLACK left out", Check.rule(heaps, 2), "rule c slack 1 most 3");
        Check.due("both left out", Check.rule(heaps, 3), "rule d only 4 slack 1 most 40 bar 5 5");
        Check.due("first left out", heaps.count(3), 0);
        // The same behind a text that told them all, whether it was loaded or not.
        String all = "rule a only 3 slack 5 most 7 bar 1 1;first 1;";
        String[] ahead = {all, all + "#"};
        for (String text : ahead) {
            Check.append(heaps, text);
            heaps.loadHeaps();
            Check.append(heaps, "rule b;");
            Check.due("load behind " + text, heaps.loadHeaps(), 0);
            Check.due("all left out behind " + text, Check.rule(heaps, 0), "rule b slack 1 most 40");
            Check.due("no ONLY behind " + text, heaps.only(0, 0), -1);
            Check.due("no bars behind " + text, heaps.barred(0, 0, false), -1);
            Check.due("first left out behind " + text, heaps.count(3), 0);
        }
    }

    /** "Braces mean any number of times, also none." */
    private static void bracesMeanNone() {
        for (int n = 1; n <= 8; n++) {
            String text = "rule a only" + numbers(n) + ";";
            Check.due("numbers of " + text, Check.loaded(text).rule(0, 2), n);
        }
        for (int n = 0; n <= 4; n++) {
            String text = "rule a" + " bar 1 0 bar 2 0 bar 3 0 bar 4 0".substring(0, 8 * n) + ";";
            Check.due("bars of " + text, Check.loaded(text).rule(0, 3), n);
        }
        Check.dueError("rule a only", SYNTAX, 11);
        Check.dueError("rule a only most 3;", SYNTAX, 12);
        Check.dueError("rule a only bar 1 1;", SYNTAX, 12);
    }

    /** "first may stand once." "REPEATED: .. the word first that stands again." */
    private static void firstOnce() {
        Check.due("ahead of all", Check.loaded("first 1;rule a;").count(3), 1);
        Check.due("behind all", Check.loaded("rule a;stick 1 1;first 1;").count(3), 1);
        Check.due("player 0", Check.loaded("rule a;first 0;").count(3), 0);
        Check.dueError("rule a;first 0;first 0;", REPEATED, 15);
        Check.dueError("first 1;rule a;first", REPEATED, 15);
        Check.dueError("first 1;rule a;first 9;", REPEATED, 15);
        // A text with an error does not count: the next one may tell first again.
        GoldenHeaps heaps = new GoldenHeaps();
        Check.append(heaps, "first 1;");
        heaps.loadHeaps();
        Check.append(heaps, "first 1;rule a;");
        Check.due("the next text", heaps.loadHeaps(), 0);
        Check.append(heaps, "rule a;");
        heaps.loadHeaps();
        Check.due("0 without it", heaps.count(3), 0);
    }

    /** "A NAME has 1 to 8 letters". */
    private static void nameLetters() {
        for (int letters = 1; letters <= 8; letters++) {
            String name = "zyxwvuts".substring(0, letters);
            GoldenHeaps heaps = Check.loaded("rule " + name + ";board " + name + " 1 1;");
            Check.due("parts", Check.parts(heaps), name + ":1,1");
            Check.due("its last letter", heaps.ruleLetter(0, letters - 1), 27 - letters);
            Check.due("no letter behind it", heaps.ruleLetter(0, letters), 0);
        }
        Check.dueError("rule zyxwvutsr;", SYNTAX, 5);
        Check.dueError("rule ;", SYNTAX, 5);
    }

    /** "and may be any word". */
    private static void nameMayBeAnyWord() {
        for (String word : KEYWORDS) {
            String text = "rule " + word + ";board " + word + " 3 4;";
            Check.due("parts of " + text, Check.parts(Check.loaded(text)), word + ":3,4");
            String told = "rule " + word + " only 2 slack 3 most 4 bar 1 1";
            Check.due("rule", Check.rule(Check.loaded(told + ";"), 0), told);
        }
    }

    /** "all rules have different names": one letter makes them different, wherever it stands. */
    private static void differentNames() {
        Check.due("the last letter", Check.loaded("rule abcdefgh;rule abcdefgi;rule abcdefg;").count(0), 3);
        Check.due("the first letter", Check.loaded("rule abcdefgh;rule bbcdefgh;rule bcdefgh;").count(0), 3);
        Check.due("the order", Check.loaded("rule ab;rule ba;rule a;rule b;").count(0), 4);
        Check.dueError("rule abcdefgh;rule abcdefg;rule abcdefgh;", REPEATED, 32);
        GoldenHeaps heaps = Check.loaded("rule a;rule aa;rule aaa;board aaa 1 1;board a 2 2;board aa 3 3;");
        Check.due("parts", Check.parts(heaps), "aaa:1,1 a:2,2 aa:3,3");
    }

    /** "Tokens are words (maximal runs of the letters a to z)". */
    private static void longestWords() {
        for (String word : KEYWORDS) {
            String statement = word.equals("rule") ? "" : "rule a";
            boolean isClause = "only slack most bar".contains(word);
            String text = statement + (isClause ? " " : statement.isEmpty() ? "" : ";");
            Check.dueError(text + word + "x 1 1;", SYNTAX, text.length());
            Check.dueError(text + "x" + word + " 1 1;", SYNTAX, text.length());
            Check.dueError(text + word.substring(1) + " 1 1;", SYNTAX, text.length());
            Check.dueError(text + word.substring(0, word.length() - 1) + " 1 1;", SYNTAX, text.length());
            for (int letter = 0; letter < word.length(); letter++) {
                String other = word.substring(0, letter) + 'q' + word.substring(letter + 1);
                Check.dueError(text + other + " 1 1;", SYNTAX, text.length());
            }
        }
        Check.dueError("rulea;", SYNTAX, 0);
        Check.dueError("rule aonly 1;", SYNTAX, 11);
    }

    /** "numbers (maximal runs of digits, 1 to 3 of them)". */
    private static void digits() {
        Check.due("one digit", Check.parts(Check.loaded("rule a;stick 7 9;")), "7/9");
        Check.due("two digits", Check.parts(Check.loaded("rule a;stick 07 09;")), "7/9");
        Check.due("three digits", Check.parts(Check.loaded("rule a;stick 007 009;")), "7/9");
        Check.due("zeros", Check.parts(Check.loaded("rule a;stick 000 001;")), "0/1");
        Check.due("three digits", Check.parts(Check.loaded("rule a;stick 060 1;")), "60/1");
        Check.dueError("rule a;stick 0007 9;", SYNTAX, 13);
        Check.dueError("rule a;stick 7 0009;", SYNTAX, 15);
        Check.dueError("rule a;stick 57;", SYNTAX, 15);
        Check.dueError("rule a;stick 999 9;", OUT_OF_RANGE, 13);
        Check.dueError("rule a;stick 1000 9;", SYNTAX, 13);
    }

    /** "Spaces (32) and line feeds (10) may stand between tokens." "a byte that belongs to no token". */
    private static void bytesBetweenTokens() {
        for (int sign = 0; sign < 256; sign++) {
            boolean isBlank = sign == 32 || sign == 10;
            String text = "rule a;" + (char) sign;
            if (isBlank) {
                Check.due("blank behind all", Check.loaded(text).count(0), 1);
                Check.due("blank ahead of all", Check.loaded((char) sign + "rule a;").count(0), 1);
                Check.due("blank within", Check.loaded("rule" + (char) sign + "a" + (char) sign + ";").count(0), 1);
            } else {
                Check.dueError(text, SYNTAX, 7);
            }
            boolean isNamePart = sign >= 'a' && sign <= 'z';
            if (!isBlank && !isNamePart && sign != ';') {
                Check.dueError("rule a" + (char) sign + ";", SYNTAX, 6);
                Check.dueError("rule " + (char) sign + "a;", SYNTAX, 5);
            }
            if (isNamePart) {
                Check.due("letter " + sign, Check.loaded("rule a" + (char) sign + ";").ruleLetter(0, 1), sign - 96);
            }
        }
    }

    /** "may stand between tokens": they need not. */
    private static void spacesMayBeLeftOut() {
        GoldenHeaps heaps = Check.loaded("first1;rule a only3 4slack2most9bar1 1bar2 3;board a9 8;stick7 3;");
        Check.due("rule", Check.rule(heaps, 0), "rule a only 3 4 slack 2 most 9 bar 1 1 bar 2 3");
        Check.due("parts", Check.parts(heaps), "a:9,8 7/3");
        GoldenHeaps many = Check.loaded("\n\n rule \n\n  a  only\n3  4 ; \n stick\n7\n\n3\n; \n");
        Check.due("rule", Check.rule(many, 0), "rule a only 3 4 slack 1 most 40");
    }

    // ---- section 6: errors

    /** "A text is parsed from left to right, and the first error met is reported, with an offset in bytes from 0". */
    private static void firstErrorMet() {
        Check.dueError("rule a;stick 61 0;#", OUT_OF_RANGE, 13);
        Check.dueError("rule a;board b 1 1;board", UNKNOWN, 13);
        Check.dueError("rule a;rule a slack 6;", REPEATED, 12);
        Check.dueError("rule a slack 6 most 0", OUT_OF_RANGE, 13);
        Check.dueError("#", SYNTAX, 0);
        Check.dueError(" #rule a;", SYNTAX, 1);
        Check.dueError("rule a only 1 1#", REPEATED, 14);
        Check.dueError("rule a;board b#", UNKNOWN, 13);
        Check.dueError("rule a;board a 99#", OUT_OF_RANGE, 15);
    }

    /** "if several errors apply to one token, the one with the smallest code". */
    private static void smallestCode() {
        String nine = "rule a only" + numbers(8);
        Check.dueError(nine + " 8;", REPEATED, nine.length() + 1);
        Check.dueError(nine + " 9;", TOO_MANY, nine.length() + 1);
        Check.dueError(nine + " 0;", OUT_OF_RANGE, nine.length() + 1);
        Check.dueError(nine + " 41;", OUT_OF_RANGE, nine.length() + 1);
        Check.dueError(nine + " 0008;", SYNTAX, nine.length() + 1);
        Check.dueError("rule a;stick 9999 1;", SYNTAX, 13);
        Check.dueError("rule a;board abcdefghi 1 1;", SYNTAX, 13);
        Check.dueError("rule abcdefgh;rule abcdefghh;", SYNTAX, 19);
    }

    /** "SYNTAX: a token that cannot stand at its place". */
    private static void wrongPlaces() {
        String[] ahead = {"", "rule ", "rule a only ", "rule a slack ", "rule a most ", "rule a bar ",
            "rule a bar 1 ", "rule a;board ", "rule a;board a ", "rule a;board a 1 ", "rule a;stick ",
            "rule a;stick 1 ", "rule a;first "};
        for (String text : ahead) {
            Check.dueError(text + ";", SYNTAX, text.length());
            Check.dueError(text + "?", SYNTAX, text.length());
            boolean isNamePlace = text.endsWith("rule ") || text.endsWith("board ");
            Check.dueError(text + (isNamePlace ? "1;" : "x;"), SYNTAX, text.length());
        }
        Check.dueError("1;", SYNTAX, 0);
        Check.dueError("rule a slack 1 only 2;", SYNTAX, 15);
        Check.dueError("rule a most 1 only 2;", SYNTAX, 14);
        Check.dueError("rule a most 1 slack 2;", SYNTAX, 14);
        Check.dueError("rule a bar 1 1 only 2;", SYNTAX, 15);
        Check.dueError("rule a bar 1 1 slack 2;", SYNTAX, 15);
        Check.dueError("rule a bar 1 1 most 2;", SYNTAX, 15);
        Check.dueError("rule a only 1 only 2;", SYNTAX, 14);
        Check.dueError("rule a slack 1 slack 2;", SYNTAX, 15);
        Check.dueError("rule a most 1 most 2;", SYNTAX, 14);
        Check.dueError("rule a slack 1 2;", SYNTAX, 15);
        Check.dueError("rule a bar 1 1 1;", SYNTAX, 15);
        Check.dueError("rule a b;", SYNTAX, 7);
    }

    /** "a word of more than 8 letters where a NAME must stand". */
    private static void longWordAsName() {
        Check.dueError("rule abcdefghi;", SYNTAX, 5);
        Check.dueError("rule abcdefgh;board abcdefghi 1 1;", SYNTAX, 20);
        Check.dueError("rule a;board abcdefghi 1 1;", SYNTAX, 13);
        Check.dueError("rule abcdefgh ijk;", SYNTAX, 14);
        Check.due("8 letters", Check.loaded("rule abcdefgh;board abcdefgh 1 1;").count(1), 1);
    }

    /** "a number that is too long": "The offset is that of the first byte of the token". */
    private static void longNumbers() {
        String[] ahead = {"rule a only ", "rule a only 1 ", "rule a slack ", "rule a most ", "rule a bar ",
            "rule a bar 1 ", "rule a;board a ", "rule a;board a 1 ", "rule a;stick ", "rule a;stick 1 ",
            "rule a;first ", "rule a "};
        for (String text : ahead) {
            Check.dueError(text + "0001;", SYNTAX, text.length());
            Check.dueError(text + "  0001;", SYNTAX, text.length() + 2);
            Check.dueError(text + "00000000000000000001;", SYNTAX, text.length());
        }
    }

    /** "the end of the text where more is required": "or the length of the text". */
    private static void endOfText() {
        String[] texts = {"rule", "rule a", "rule a only", "rule a only 1", "rule a only 1 2", "rule a slack",
            "rule a slack 1", "rule a most", "rule a most 1", "rule a bar", "rule a bar 1", "rule a bar 1 1",
            "rule a;board", "rule a;board a", "rule a;board a 1", "rule a;board a 1 1", "rule a;stick",
            "rule a;stick 1", "rule a;stick 1 1", "rule a;first", "rule a;first 1", "first", "stick 1"};
        for (String text : texts) {
            Check.dueError(text, SYNTAX, text.length());
            Check.dueError(text + " ", SYNTAX, text.length() + 1);
            Check.dueError(text + " \n\n", SYNTAX, text.length() + 3);
        }
    }

    /** "the end of the text .. where there is no rule". */
    private static void noRule() {
        String[] texts = {"", " ", "\n", "stick 1 1;", "first 0;", "stick 1 1; first 1; \n"};
        for (String text : texts) {
            Check.dueError(text, SYNTAX, text.length());
        }
    }

    /** "OUT_OF_RANGE: a number that is out of its range", and both ends of each range. */
    private static void rangesOfNumbers() {
        dueRange("rule a only ", ";", 1, 40);
        dueRange("rule a only 7 ", ";", 1, 40);
        dueRange("rule a slack ", ";", 0, 5);
        dueRange("rule a most ", ";", 1, 40);
        dueRange("rule a bar ", " 1;", 0, 40);
        dueRange("rule a bar 1 ", ";", 0, 40);
        dueRange("rule a;board a ", " 1;", 0, 40);
        dueRange("rule a;board a 1 ", ";", 0, 40);
        dueRange("rule a;stick ", " 1;", 0, 60);
        dueRange("rule a;stick 1 ", ";", 1, 9);
        dueRange("rule a;first ", ";", 0, 1);
    }

    private static void dueRange(String ahead, String behind, int least, int greatest) {
        int[] fine = {least, least + 1, greatest};
        for (int n : fine) {
            GoldenHeaps heaps = new GoldenHeaps();
            Check.append(heaps, ahead + n + behind);
            heaps.loadHeaps();
            Check.due("error of " + ahead + n + behind, heaps.errorCode(), GoldenHeaps.NO_ERROR);
        }
        int[] wrong = {least - 1, greatest + 1, 100, 256, 999};
        for (int n : wrong) {
            if (n >= 0) {
                Check.dueError(ahead + n + behind, OUT_OF_RANGE, ahead.length());
            }
        }
    }

    /** "the second number of a bar (0 to 40) whose numbers are both 0." */
    private static void secondNumberOfABar() {
        Check.dueError("rule a bar 0 0;", OUT_OF_RANGE, 13);
        Check.dueError("rule a bar 000 000;", OUT_OF_RANGE, 15);
        Check.dueError("rule a bar 1 0 bar 0 1 bar 0 0;", OUT_OF_RANGE, 29);
        Check.dueError("rule a bar 0 41;", OUT_OF_RANGE, 13);
        Check.dueError("rule a bar 0;", SYNTAX, 12);
        Check.due("one of them is 0", Check.loaded("rule a bar 0 40 bar 40 0;").rule(0, 3), 2);
    }

    /** "UNKNOWN: a NAME of no rule, of a board.": rules must be told ahead. */
    private static void unknownNames() {
        Check.dueError("rule a;board b 1 1;", UNKNOWN, 13);
        Check.dueError("rule abcdefgh;board abcdefg 1 1;", UNKNOWN, 20);
        Check.dueError("rule abcdefg;board abcdefgh 1 1;", UNKNOWN, 19);
        Check.dueError("board a 1 1;rule a;", UNKNOWN, 6);
        Check.dueError("rule a;board b 1 1;rule b;", UNKNOWN, 13);
        Check.dueError("rule a;board b", UNKNOWN, 13);
        // A name of what was loaded earlier, or of a text with an error, is none.
        GoldenHeaps heaps = Check.loaded("rule b;");
        Check.append(heaps, "rule a;board b 1 1;");
        Check.due("a name of an earlier text", heaps.loadHeaps(), -1);
        Check.due("a name of an earlier text", heaps.errorCode(), UNKNOWN);
        Check.append(heaps, "rule c;board a 1 1;");
        Check.due("a name of a wrong text", heaps.loadHeaps(), -1);
        Check.due("a name of a wrong text", heaps.errorCode(), UNKNOWN);
    }

    /** "REPEATED: the NAME of a new rule that there is; a number that ONLY of this rule has already; .. of a bar". */
    private static void repeatedThings() {
        Check.dueError("rule a;rule b;rule c;rule a;", REPEATED, 26);
        Check.dueError("rule a;rule b;rule c;rule c;", REPEATED, 26);
        Check.dueError("rule a only 1 1;", REPEATED, 14);
        Check.dueError("rule a only 40 1 040;", REPEATED, 17);
        Check.dueError("rule a bar 1 2 bar 1 2;", REPEATED, 21);
        Check.dueError("rule a bar 1 2 bar 3 4 bar 5 6 bar 1 2;", REPEATED, 37);
        Check.due("the other way round", Check.loaded("rule a bar 1 2 bar 2 1;").rule(0, 3), 2);
        Check.due("its first number alone", Check.loaded("rule a bar 1 2 bar 1 3 bar 1 0 bar 0 2;").rule(0, 3), 4);
        GoldenHeaps others = Check.loaded("rule a only 1 bar 1 2;rule b only 1 bar 1 2;");
        Check.due("of this rule alone", Check.rule(others, 1), "rule b only 1 slack 1 most 40 bar 1 2");
    }

    /** "TOO_MANY: the first word of a 5th rule, board or stick; a 9th number of an only; the word bar of a 5th bar". */
    private static void tooManyThings() {
        String rules = "rule a;rule b;rule c;rule d;";
        Check.due("4 rules", Check.loaded(rules).count(0), 4);
        Check.dueError(rules + "rule e;", TOO_MANY, rules.length());
        Check.dueError(rules + "rule", TOO_MANY, rules.length());
        Check.dueError(rules + "rule a;", TOO_MANY, rules.length());
        String boards = "rule a;" + many("board a 1 1;", 4);
        Check.due("4 boards", Check.loaded(boards).count(1), 4);
        Check.dueError(boards + "board a 1 1;", TOO_MANY, boards.length());
        Check.dueError(boards + "board x 99;", TOO_MANY, boards.length());
        String sticks = "rule a;" + many("stick 1 1;", 4);
        Check.due("4 sticks", Check.loaded(sticks).count(2), 4);
        Check.dueError(sticks + "stick 1 1;", TOO_MANY, sticks.length());
        Check.dueError(sticks + "stick 99;", TOO_MANY, sticks.length());
        Check.dueError("rule a only" + numbers(9) + ";", TOO_MANY, 28);
        String bars = "rule a bar 1 0 bar 2 0 bar 3 0 bar 4 0";
        Check.due("4 bars", Check.loaded(bars + ";").rule(0, 3), 4);
        Check.dueError(bars + " bar 5 0;", TOO_MANY, bars.length() + 1);
        Check.dueError(bars + " bar 1 0;", TOO_MANY, bars.length() + 1);
        Check.dueError(bars + " bar", TOO_MANY, bars.length() + 1);
        Check.due("4 of each rule", Check.loaded(bars + ";rule b" + bars.substring(6) + ";").rule(1, 3), 4);
    }

    /** "An error changes nothing but the input buffer and the reported error." */
    private static void errorChangesNothing() {
        String[] texts = {"", "#", "rule b;board b 9 9;first 0;stick 3 0;", "rule b;board c 1 1;", "rule b;rule b;",
            "rule b only 3 slack 5 most 7 bar 1 1;first 0;first 1;", "rule b bar 1 0 bar 2 0 bar 3 0 bar 4 0 bar"};
        for (String text : texts) {
            GoldenHeaps heaps = Check.loaded("rule a bar 2 1;board a 5 8;stick 7 3;first 1;");
            heaps.keep(1);
            String atFirst = Whole.kept(heaps);
            heaps.move(0, 1, 1);
            String before = Whole.kept(heaps);
            heaps.printParts();
            heaps.move(1, 2, 0);
            String now = Whole.kept(heaps);
            Check.append(heaps, text);
            Check.due("load of " + text, heaps.loadHeaps(), -1);
            Check.due("all behind " + text, Whole.kept(heaps), now);
            Check.due("changes behind " + text, heaps.count(10), 2);
            Check.due("output behind " + text, Check.output(heaps), "a:4,7 7/3");
            heaps.undo();
            Check.due("undone behind " + text, Whole.kept(heaps), before);
            heaps.bringBack(1);
            Check.due("snapshot behind " + text, Whole.kept(heaps), atFirst);
            Check.dueThrow("no snapshot behind " + text, () -> heaps.bringBack(0), NoSuchElementException.class);
        }
    }

    /** "A successful load replaces everything but the output; all accounts are 0, no turns are kept, .." */
    private static void loadReplaces() {
        String text = "rule b slack 2;board b 3 3;stick 4 4;";
        GoldenHeaps heaps = Check.loaded("rule a bar 2 1;board a 5 8;board a 1 1;stick 7 3;first 1;");
        heaps.follow(3);
        heaps.setMost(0, 3);
        heaps.again(1);
        heaps.keep(0);
        heaps.keep(1);
        int written = heaps.printRule(0);
        Check.append(heaps, text);
        Check.due("load", heaps.loadHeaps(), 2);
        Check.due("everything else", Whole.kept(heaps), Whole.kept(Check.loaded(text)));
        Check.due("accounts", heaps.account(0, 0) + heaps.account(1, 0) + heaps.account(0, 1) + heaps.account(1, 1), 0);
        Check.due("turns", heaps.count(12), 0);
        Check.due("games", heaps.count(9), 1);
        Check.due("changes", heaps.count(10), 0);
        Check.dueThrow("undo", heaps::undo, NoSuchElementException.class);
        Check.dueThrow("bringBack(0)", () -> heaps.bringBack(0), NoSuchElementException.class);
        Check.dueThrow("bringBack(1)", () -> heaps.bringBack(1), NoSuchElementException.class);
        Check.due("the output stays", Check.output(heaps), "rule a slack 1 most 3 bar 2 1");
        Check.due("its length", Check.output(heaps).length(), written);
        heaps.move(0, 1, 1);
        heaps.again(0);
        Check.due("as this text told them", Check.parts(heaps), "b:3,3 4/4");
    }
}
