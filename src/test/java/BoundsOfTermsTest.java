/** The sentences of sections 1 to 5 that name a boundary case, in their order; each has a test of its own. */
final class BoundsOfTermsTest {
    public static void main(String[] args) {
        oneToFourRules();
        neverBothZero();
        onlyHasOneToEightNumbers();
        slackAndMostAndBars();
        atMostMost();
        theOtherOneIsInOnly();
        anyWithoutOnly();
        differenceLessThanSlack();
        noneWithSlackZero();
        notTheOtherWayRound();
        freeRules();
        movesWithinTheHeaps();
        spans();
        tablesAsDefined();
        tablesOfTheRulesNow();
        orderOfTheTable();
        boardsFirst();
        sticks();
        winningMovesOfSticks();
        movesOfAllParts();
        valueOfAStick();
        totalOfParts();
        turnsInTurn();
        gameIsOver();
        gameIsOverAsLongAs();
        orderOfMoves();
        adviceWithoutWinningMove();
        accounts();
        lastTurns();
        winningMovesAndBlunders();
        numbersOfATurn();
        twentyTurns();
        turnsOfEarlierGames();
        reasonOne();
        reasonTwo();
        reasonThree();
        reasonsFourToSeven();
        theFirstReason();
        Check.finish("BoundsOfTermsTest");
    }

    // ---- section 1

    /** "There are 1 to 4 rules, numbered from 0 in the order in which they were told." */
    private static void oneToFourRules() {
        String[] names = {"d", "b", "a", "c"};
        String text = "";
        Check.dueError("stick 1 1;", GoldenHeaps.SYNTAX, 10);
        for (int many = 1; many <= 4; many++) {
            text += "rule " + names[many - 1] + ";";
            GoldenHeaps heaps = Check.loaded(text);
            Check.due("rules", heaps.count(0), many);
            Check.due("the last one", heaps.ruleLetter(many - 1, 0), names[many - 1].charAt(0) - 'a' + 1);
            Check.due("the first one", heaps.ruleLetter(0, 0), 4);
            Check.noIndex("the next one", () -> heaps.rule(heaps.count(0), 0));
        }
        Check.dueError(text + "rule e;", GoldenHeaps.TOO_MANY, 28);
    }

    /** "0 to 40 each, not both 0": the smallest and the greatest moves there are. */
    private static void neverBothZero() {
        GoldenHeaps heaps = Check.loaded("rule a;board a 40 40;");
        Check.due("both 0", heaps.allows(0, 0, 0), false);
        Check.due("both 0", heaps.whyNot(0, 0, 0), 1);
        Check.due("1 and 0", heaps.allows(0, 1, 0), true);
        Check.due("0 and 1", heaps.allows(0, 0, 1), true);
        Check.due("both 40", heaps.allows(0, 40, 40), true);
        Check.due("the greatest move", heaps.move(0, 40, 40), 0);
        Check.due("nothing is left", heaps.count(11), 0);
    }

    /** "ONLY (1 to 8 different numbers, 1 to 40; or it has none)". */
    private static void onlyHasOneToEightNumbers() {
        String[] texts = {"rule a;", "rule a only 1;", "rule a only 40;", "rule a only 1 2 3 4 5 6 7 40;"};
        int[] many = {0, 1, 1, 8};
        for (int i = 0; i < texts.length; i++) {
            Check.due("numbers of " + texts[i], Check.loaded(texts[i]).rule(0, 2), many[i]);
        }
        GoldenHeaps eight = Check.loaded(texts[3]);
        Check.due("the 8th", eight.only(0, 7), 40);
        Check.due("the 9th", eight.only(0, 8), -1);
        Check.dueError("rule a only 1 2 3 4 5 6 7 8 40;", GoldenHeaps.TOO_MANY, 28);
        Check.dueError("rule a only;", GoldenHeaps.SYNTAX, 11);
        Check.dueError("rule a only 0;", GoldenHeaps.OUT_OF_RANGE, 12);
        Check.dueError("rule a only 41;", GoldenHeaps.OUT_OF_RANGE, 12);
    }

    /** "SLACK (0 to 5), MOST (1 to 40) and at most 4 barred moves." */
    private static void slackAndMostAndBars() {
        GoldenHeaps least = Check.loaded("rule a slack 0 most 1;");
        Check.due("SLACK", least.rule(0, 0), 0);
        Check.due("MOST", least.rule(0, 1), 1);
        Check.due("barred moves", least.rule(0, 3), 0);
        GoldenHeaps most = Check.loaded("rule a slack 5 most 40 bar 1 0 bar 0 1 bar 40 40 bar 40 0;");
        Check.due("SLACK", most.rule(0, 0), 5);
        Check.due("MOST", most.rule(0, 1), 40);
        Check.due("barred moves", most.rule(0, 3), 4);
        Check.dueThrow("a 5th one", () -> most.bar(0, 0, 40, true), IllegalStateException.class);
        Check.dueError("rule a slack 6;", GoldenHeaps.OUT_OF_RANGE, 13);
        Check.dueError("rule a most 0;", GoldenHeaps.OUT_OF_RANGE, 12);
        Check.dueError("rule a most 41;", GoldenHeaps.OUT_OF_RANGE, 12);
    }

    /** "k and l are at most MOST each". */
    private static void atMostMost() {
        GoldenHeaps heaps = Check.loaded("rule a;");
        for (int most = 1; most <= 40; most++) {
            heaps.setMost(0, most);
            Check.due("k is MOST " + most, heaps.allows(0, most, 0), true);
            Check.due("l is MOST " + most, heaps.allows(0, 0, most), true);
            Check.due("both are MOST " + most, heaps.allows(0, most, most), true);
            if (most < 40) {
                Check.due("k is above MOST " + most, heaps.allows(0, most + 1, 0), false);
                Check.due("l is above MOST " + most, heaps.allows(0, 0, most + 1), false);
                Check.due("both are above MOST " + most, heaps.allows(0, most + 1, most + 1), false);
            }
        }
        GoldenHeaps slack = Check.loaded("rule a slack 2 most 7;");
        Check.due("l alone is above MOST", slack.allows(0, 7, 8), false);
        Check.due("k alone is above MOST", slack.allows(0, 8, 7), false);
        Check.due("neither is", slack.allows(0, 7, 6), true);
    }

    /** "if one of them is 0, the other one is in ONLY". */
    private static void theOtherOneIsInOnly() {
        GoldenHeaps heaps = Check.loaded("rule a only 1 20 32 33 40;");
        for (int n = 1; n <= 40; n++) {
            boolean is = n == 1 || n == 20 || n == 32 || n == 33 || n == 40;
            Check.due(n + " and 0", heaps.allows(0, n, 0), is);
            Check.due("0 and " + n, heaps.allows(0, 0, n), is);
            Check.due("both above 0: " + n, heaps.allows(0, n, n), true);
        }
    }

    /** "(any, if the rule has none)". */
    private static void anyWithoutOnly() {
        GoldenHeaps heaps = Check.loaded("rule a;");
        for (int n = 1; n <= 40; n++) {
            Check.due(n + " and 0", heaps.allows(0, n, 0), true);
            Check.due("0 and " + n, heaps.allows(0, 0, n), true);
        }
    }

    /** "if both are above 0, their difference (the greater one less the other one) is less than SLACK". */
    private static void differenceLessThanSlack() {
        GoldenHeaps heaps = Check.loaded("rule a only 7;");
        for (int slack = 1; slack <= 5; slack++) {
            heaps.setSlack(0, slack);
            for (int less = 1; less + slack <= 40; less += 35 - slack) {
                Check.due("one less than SLACK " + slack, heaps.allows(0, less + slack - 1, less), true);
                Check.due("one less than SLACK " + slack, heaps.allows(0, less, less + slack - 1), true);
                Check.due("SLACK " + slack, heaps.allows(0, less + slack, less), false);
                Check.due("SLACK " + slack, heaps.allows(0, less, less + slack), false);
            }
        }
    }

    /** "(so none is, with SLACK 0)". */
    private static void noneWithSlackZero() {
        GoldenHeaps heaps = Check.loaded("rule a slack 0;");
        for (int k = 1; k <= 40; k++) {
            Check.due("both " + k, heaps.allows(0, k, k), false);
            Check.due("1 and " + k, heaps.allows(0, 1, k), false);
            Check.due(k + " and 40", heaps.allows(0, k, 40), false);
            Check.due("0 and " + k, heaps.allows(0, 0, k), true);
        }
    }

    /** "it is not barred (that k and l are barred does not bar l and k)". */
    private static void notTheOtherWayRound() {
        GoldenHeaps heaps = Check.loaded("rule a slack 2 bar 3 2 bar 0 40 bar 1 0 bar 5 5;");
        int[][] barred = {{3, 2}, {0, 40}, {1, 0}, {5, 5}};
        for (int[] move : barred) {
            Check.due("barred " + move[0] + " " + move[1], heaps.allows(0, move[0], move[1]), false);
            Check.due("not barred " + move[1] + " " + move[0], heaps.allows(0, move[1], move[0]), move[0] != move[1]);
        }
    }

    /** "A rule is free if it has no ONLY, MOST is 40, SLACK is above 0, and no move is barred." */
    private static void freeRules() {
        String[] bound = {"rule a only 1;", "rule a most 39;", "rule a most 1;", "rule a slack 0;",
            "rule a bar 40 40;"};
        for (String text : bound) {
            Check.due("free: " + text, Check.loaded(text).rule(0, 4), 0);
            Check.due("gap: " + text, Check.loaded(text).gap(0), -1);
        }
        for (int slack = 1; slack <= 5; slack++) {
            GoldenHeaps heaps = Check.loaded("rule a slack " + slack + " most 40;");
            Check.due("free with SLACK " + slack, heaps.rule(0, 4), 1);
            Check.due("gap with SLACK " + slack, heaps.gap(0), 0);
        }
        GoldenHeaps heaps = Check.loaded("rule a bar 1 1;");
        heaps.bar(0, 1, 1, false);
        Check.due("free again", heaps.rule(0, 4), 1);
        heaps.setMost(0, 39);
        Check.due("free no more", heaps.rule(0, 4), 0);
    }

    // ---- section 2

    /** "Its moves are the allowed ones with k at most x and l at most y." */
    private static void movesWithinTheHeaps() {
        int[][] due = {{0, 0, 0}, {1, 0, 1}, {0, 1, 1}, {1, 1, 3}, {40, 0, 40}, {0, 40, 40}, {40, 40, 120}, {2, 1, 4}};
        for (int[] row : due) {
            String board = row[0] + " " + row[1];
            GoldenHeaps heaps = Check.loaded("rule a;board a " + board + ";");
            Check.due("moves of " + board, heaps.part(0, 5), row[2]);
            Check.due("moves of all", heaps.count(6), row[2]);
            Check.due("all of the first heap", heaps.whyNot(0, row[0], 0), row[0] > 0 ? 0 : 1);
            Check.due("one more than that", heaps.whyNot(0, row[0] + 1, 0), 2);
            Check.due("all of the second heap", heaps.whyNot(0, 0, row[1]), row[1] > 0 ? 0 : 1);
            Check.due("one more than that", heaps.whyNot(0, 0, row[1] + 1), 2);
        }
    }

    /** "Its SPAN is 0 if it has no moves; .. if it is losing, 1 more than the greatest ..; otherwise .. the least". */
    private static void spans() {
        GoldenHeaps plain = Check.loaded("rule a;rule none only 9 slack 0;");
        Check.due("no units", plain.span(0, 0, 0), 0);
        Check.due("units, but no moves", plain.span(1, 8, 8), 0);
        Check.due("the first move there is", plain.span(1, 9, 8), 1);
        // 1, 2 leads to SPANS of 1 alone.
        Check.due("losing, from equal ones", plain.span(0, 1, 2), 2);
        // 3, 5 leads to 1, 5 and 2, 5, whose SPAN is 3, and to others of SPAN 1.
        Check.due("losing, from the greatest one", plain.span(0, 3, 5), 4);
        // 7, 7 leads to 0, 0 and to 4, 7: SPANS 0 and more.
        Check.due("4, 7 is losing, too", plain.value(0, 4, 7), 0);
        Check.due("winning, from the least one", plain.span(0, 7, 7), 1);
        // 2, 3 leads to 0, 0 by no move: to 1, 2 by 1, 1 and to 2, 1 by 0, 2.
        Check.due("winning, from losing ones alone", plain.span(0, 2, 3), 3);
    }

    /** The whole tables of rules at their bounds, as the definitions of VALUE and SPAN say them. */
    private static void tablesAsDefined() {
        String[] rules = {"", "slack 0", "slack 5", "most 1", "slack 5 most 39", "only 1 slack 0 most 1", "only 40",
            "only 40 slack 0", "only 1 2 3 4 5 6 7 8 slack 2", "bar 1 0 bar 0 1 bar 1 1 bar 40 40",
            "only 1 slack 0 bar 1 0", "only 1 slack 0 bar 1 0 bar 0 1", "slack 3 most 7 bar 2 1 bar 3 3"};
        for (String rule : rules) {
            String text = "rule a " + rule + ";";
            dueTableOf(Check.loaded(text), text);
        }
    }

    private static void dueNumbersOfTable(String text, GoldenHeaps heaps, Model model) {
        for (int what = 5; what <= 8; what++) {
            Check.due(text + " rule(0, " + what + ")", heaps.rule(0, what), model.rule(0, what));
        }
        Check.due(text + " share", heaps.share(0), model.share(0));
        Check.due(text + " meanValue", heaps.meanValue(0), model.meanValue(0));
        for (int x = 0; x <= 40; x++) {
            Check.due(text + " partner of " + x, heaps.partner(0, x), model.partner(0, x));
        }
        for (int slack = 0; slack <= 5; slack++) {
            Check.due(text + " losingWith " + slack, heaps.losingWith(0, slack), model.losingWith(0, slack));
        }
    }

    /** The same for rules that have changed, down to none of all moves and back to all of them. */
    private static void tablesOfTheRulesNow() {
        GoldenHeaps heaps = Check.loaded("rule a;");
        dueTableOf(heaps, "rule a;");
        heaps.setSlack(0, 0);
        dueTableOf(heaps, "rule a slack 0;");
        heaps.setMost(0, 1);
        dueTableOf(heaps, "rule a slack 0 most 1;");
        heaps.bar(0, 1, 0, true);
        dueTableOf(heaps, "rule a slack 0 most 1 bar 1 0;");
        heaps.bar(0, 1, 0, false);
        heaps.bar(0, 0, 1, true);
        dueTableOf(heaps, "rule a slack 0 most 1 bar 0 1;");
        heaps.bar(0, 1, 0, true);
        dueTableOf(heaps, "rule a slack 0 most 1 bar 0 1 bar 1 0;");
        Check.due("no moves, no VALUES", heaps.meanValue(0), 0.0);
        heaps.undo();
        dueTableOf(heaps, "rule a slack 0 most 1 bar 0 1;");
        Check.append(heaps, "rule a;");
        heaps.loadHeaps();
        dueTableOf(heaps, "rule a;");
        Check.append(heaps, "rule a only 7;");
        heaps.loadHeaps();
        dueTableOf(heaps, "rule a only 7;");
    }

    private static void dueTableOf(GoldenHeaps heaps, String text) {
        Model model = new Model();
        model.appendText(text);
        model.truncateInput(text.length());
        Check.due("the model's parts", model.loadHeaps(), 0);
        for (int place = 0; place < 1681; place++) {
            int x = place / 41;
            int y = place % 41;
            Check.due(text + " value " + x + " " + y, heaps.value(0, x, y), model.value(0, x, y));
            Check.due(text + " span " + x + " " + y, heaps.span(0, x, y), model.span(0, x, y));
        }
        dueNumbersOfTable(text, heaps, model);
    }

    /** "The table of a rule has its 1681 positions, ordered by x, those with the same x by y." */
    private static void orderOfTheTable() {
        GoldenHeaps all = Check.loaded("rule a only 1 slack 0 most 1 bar 1 0 bar 0 1;");
        Check.due("all positions", all.rule(0, 6), 1681);
        int[] indices = {0, 1, 40, 41, 42, 1639, 1640, 1680};
        for (int index : indices) {
            Check.due("x of " + index, all.losing(0, index, false), index / 41);
            Check.due("y of " + index, all.losing(0, index, true), index % 41);
        }
        Check.due("no 1682nd one", all.losing(0, 1681, false), -1);
        Check.due("no 1682nd one", all.losing(0, 1681, true), -1);
        Check.due("its share", all.share(0), 1f);
    }

    // ---- section 4

    /** "the parts, numbered from 0, the boards first, each kind in the order in which it was told." */
    private static void boardsFirst() {
        GoldenHeaps heaps = Check.loaded("stick 1 1;rule a;board a 1 2;stick 3 3;rule b;board b 4 4;stick 5 5;"
            + "board a 6 6;stick 7 7;board b 8 8;");
        Check.due("parts", Check.parts(heaps), "a:1,2 b:4,4 a:6,6 b:8,8 1/1 3/3 5/5 7/7");
        Check.due("boards", heaps.count(1), 4);
        Check.due("sticks", heaps.count(2), 4);
        Check.due("the last board", heaps.part(3, 0), 0);
        Check.due("the first stick", heaps.part(4, 0), 1);
        Check.noIndex("no 9th part", () -> heaps.part(8, 0));
        GoldenHeaps noBoard = Check.loaded("rule a;stick 7 3;");
        Check.due("a stick alone is part 0", noBoard.part(0, 0), 1);
        GoldenHeaps noStick = Check.loaded("rule a;board a 7 3;");
        Check.due("a board alone is part 0", noStick.part(0, 0), 0);
        Check.noIndex("no stick", () -> noStick.part(1, 0));
    }

    /** "a move takes 1 to LIMIT units from it, and not more than LENGTH (as k; l is 0)." */
    private static void sticks() {
        int[][] due = {{0, 1, 0}, {0, 9, 0}, {1, 1, 1}, {1, 9, 1}, {8, 9, 8}, {9, 9, 9}, {10, 9, 9}, {60, 1, 1},
            {60, 9, 9}};
        for (int[] row : due) {
            String stick = row[0] + " " + row[1];
            GoldenHeaps heaps = Check.loaded("rule a;stick " + stick + ";");
            Check.due("moves of " + stick, heaps.part(0, 5), row[2]);
            for (int k = 1; k <= 11; k++) {
                Check.due(k + " of " + stick, heaps.whyNot(0, k, 0) == 0, k <= row[2]);
                Check.due(k + " and 1 of " + stick, heaps.whyNot(0, k, 1), 2);
            }
        }
        GoldenHeaps heaps = Check.loaded("rule a;stick 3 9;");
        heaps.move(0, 3, 0);
        Check.due("all of it", heaps.part(0, 2), 0);
    }

    /** The moves to LENGTH 0 and to the least LENGTH that LIMIT leaves are among the winning ones. */
    private static void winningMovesOfSticks() {
        int[][] due = {{3, 3, 0, 1}, {4, 3, 0, 0}, {5, 3, 0, 1}, {7, 3, 0, 1}, {9, 9, 1, 1}, {9, 9, 9, 0},
            {3, 9, 9, 0}, {5, 1, 0, 1}};
        for (int[] row : due) {
            GoldenHeaps heaps = Check.loaded("rule a;stick " + row[0] + " " + row[1] + ";stick " + row[2] + " 9;");
            String told = row[0] + " by " + row[1] + " beside " + row[2];
            Check.due("winning moves of " + told, heaps.part(0, 6), row[3]);
            int sum = heaps.part(0, 6) + heaps.part(1, 6);
            Check.due("winning moves beside " + told, heaps.count(7), sum);
        }
        Check.due("of both sticks", Check.loaded("rule a;stick 9 9;stick 3 9;").count(7), 1);
        Check.due("of three sticks", Check.loaded("rule a;stick 1 9;stick 2 9;stick 4 9;").count(7), 1);
        Check.due("of a board and a stick", Check.loaded("rule a;board a 0 3;stick 2 9;").count(7), 1);
        Check.due("a stick of each", Check.loaded("rule a;stick 3 9;stick 3 9;stick 3 9;").count(7), 3);
    }

    /** Counts of moves, units and boards, from no part to all of eight. */
    private static void movesOfAllParts() {
        GoldenHeaps none = Check.loaded("rule a;rule b;");
        Check.due("moves", none.count(6), 0);
        Check.due("winning ones", none.count(7), 0);
        Check.due("units", none.count(11), 0);
        Check.due("boards that have a", none.rule(0, 7), 0);
        GoldenHeaps all = Check.loaded("rule a;rule b slack 0;board a 40 40;board a 0 40;board b 40 40;board a 40 40;"
            + "stick 60 9;stick 60 9;stick 60 9;stick 60 1;");
        Check.due("moves", all.count(6), 120 + 40 + 80 + 120 + 9 + 9 + 9 + 1);
        Check.due("units", all.count(11), 80 + 40 + 80 + 80 + 240);
        Check.due("boards that have a", all.rule(0, 7), 3);
        Check.due("boards that have b", all.rule(1, 7), 1);
        GoldenHeaps four = Check.loaded("rule a;rule b;" + "board b 1 1;".repeat(4));
        Check.due("boards that have a", four.rule(0, 7), 0);
        Check.due("boards that have b", four.rule(1, 7), 4);
    }

    /** "VALUE of a stick the remainder of LENGTH by LIMIT + 1." */
    private static void valueOfAStick() {
        for (int limit = 1; limit <= 9; limit++) {
            int[] lengths = {0, 1, limit, limit + 1, limit + 2, 2 * limit + 1, 2 * limit + 2, 60};
            for (int length : lengths) {
                int value = Check.loaded("rule a;stick " + length + " " + limit + ";").part(0, 4);
                Check.due("VALUE of " + length + " by " + limit, value, length - length / (limit + 1) * (limit + 1));
            }
        }
    }

    /** "TOTAL is the bitwise exclusive or of VALUE of all parts (0 without parts)." */
    private static void totalOfParts() {
        Check.due("without parts", Check.loaded("rule a;").count(5), 0);
        Check.due("of one part", Check.loaded("rule a;stick 9 9;").count(5), 9);
        Check.due("of equal parts", Check.loaded("rule a;stick 9 9;stick 9 9;").count(5), 0);
        GoldenHeaps all = Check.loaded("rule a slack 0;board a 40 0;board a 0 32;board a 1 2;board a 16 16;"
            + "stick 5 9;stick 3 3;stick 4 3;stick 60 8;");
        Check.due("of eight parts", all.count(5), 40 ^ 32 ^ 1 ^ 2 ^ 16 ^ 16 ^ 5 ^ 3 ^ 0 ^ 6);
    }

    /** "Two players, 0 and 1, have the turn in turn. A turn is one move on one part." */
    private static void turnsInTurn() {
        for (int first = 0; first <= 1; first++) {
            GoldenHeaps heaps = Check.loaded("rule a;stick 4 1;first " + first + ";");
            for (int i = 0; i < 4; i++) {
                Check.due("player of turn " + i, heaps.count(3), (first + i) % 2);
                heaps.move(0, 1, 0);
                Check.due("player that is kept", heaps.turn(0, 0), (first + i) % 2);
            }
            Check.due("player behind the last turn", heaps.count(3), first);
        }
    }

    /** "The game is over as long as no part has a move." */
    private static void gameIsOver() {
        String[] over = {"rule a;", "rule a;board a 0 0;", "rule a;stick 0 9;", "rule a;board a 0 0;stick 0 1;",
            "rule a only 9 slack 0;board a 8 8;", "rule a only 1 slack 0 bar 1 0;board a 40 0;"};
        for (String text : over) {
            GoldenHeaps heaps = Check.loaded(text);
            Check.due("over: " + text, heaps.count(8), 1);
            Check.due("moves: " + text, heaps.count(6), 0);
        }
        String[] open = {"rule a;board a 0 1;", "rule a;board a 1 0;", "rule a;stick 1 1;",
            "rule a;board a 0 0;stick 1 9;", "rule a;board a 0 0;board a 0 0;board a 0 0;board a 0 1;",
            "rule a only 9 slack 0;board a 8 9;"};
        for (String text : open) {
            Check.due("not over: " + text, Check.loaded(text).count(8), 0);
        }
    }

    /** The same: another rule can bring moves back, or take the last one away. */
    private static void gameIsOverAsLongAs() {
        GoldenHeaps heaps = Check.loaded("rule a only 1 slack 0;board a 1 0;");
        Check.due("one move", heaps.count(8), 0);
        heaps.bar(0, 1, 0, true);
        Check.due("over", heaps.count(8), 1);
        Check.due("no advice", heaps.advice(0), -1);
        heaps.bar(0, 1, 0, false);
        Check.due("over no more", heaps.count(8), 0);
        heaps.move(0, 1, 0);
        Check.due("over again", heaps.count(8), 1);
        heaps.undo();
        Check.due("undone", heaps.count(8), 0);
    }

    /** "Moves are ordered by their parts, those of one part by k, those with the same k by l." */
    private static void orderOfMoves() {
        dueAdvice("rule a slack 0;board a 0 1;board a 0 1;board a 0 1;", "0 0 1 1");
        dueAdvice("rule a;board a 0 0;stick 0 9;stick 1 9;", "2 1 0 1");
        // With takes of 1 and 3 from heaps of 3, each of them leaves VALUE 0.
        dueAdvice("rule a only 1 3 slack 0;board a 3 0;", "0 1 0 1");
        dueAdvice("rule a only 1 3 slack 0;board a 0 3;", "0 0 1 1");
        // 5, 8 leads to 5, 3 by 0, 5 and to 4, 7 by 1, 1.
        dueAdvice("rule a;board a 5 8;", "0 0 5 1");
        dueAdvice("rule a;board a 8 5;", "0 1 1 1");
        // VALUES 1, 2 and 2: a move on the first part leads to TOTAL 0 before the others do.
        dueAdvice("rule a;stick 1 9;stick 2 9;stick 2 9;", "0 1 0 1");
        // VALUES 0 and 1: 0, 2 leads the first part to VALUE 1, ahead of what the stick offers.
        dueAdvice("rule a;board a 1 2;stick 1 1;", "0 0 2 1");
        // VALUES 0 and 3 of sticks that lead from 4 to 1, 2 and 3.
        dueAdvice("rule a;stick 4 3;stick 3 3;", "0 1 0 1");
    }

    /** "The advice is the first winning move; if there is none, the first move." */
    private static void adviceWithoutWinningMove() {
        dueAdvice("rule a;board a 1 2;", "0 0 1 0");
        dueAdvice("rule a;board a 2 2;board a 2 2;", "0 0 1 0");
        dueAdvice("rule a only 2 3 slack 0;board a 4 4;", "0 0 2 0");
        dueAdvice("rule a bar 0 1 bar 0 2;board a 1 1;board a 1 1;", "0 1 0 0");
        dueAdvice("rule a;stick 4 3;stick 8 3;", "0 1 0 0");
        dueAdvice("rule a;board a 0 0;stick 0 3;", "-1 -1 -1 -1");
    }

    private static void dueAdvice(String text, String due) {
        GoldenHeaps heaps = Check.loaded(text);
        String got = heaps.advice(0) + " " + heaps.advice(1) + " " + heaps.advice(2) + " " + heaps.advice(3);
        Check.due("advice of " + text, got, due);
    }

    private static String accountsOf(GoldenHeaps heaps, int player) {
        StringBuilder accounts = new StringBuilder();
        for (int what = 0; what < 5; what++) {
            accounts.append(what > 0 ? " " : "").append(heaps.account(player, what));
        }
        return accounts.toString();
    }

    /** "Each player has accounts: 0 turns, 1 units taken, 2 .., 3 winning moves made, 4 blunders". */
    private static void accounts() {
        GoldenHeaps heaps = Check.loaded("rule a;board a 3 5;stick 1 1;");
        Check.due("at first", accountsOf(heaps, 0) + ", " + accountsOf(heaps, 1), "0 0 0 0 0, 0 0 0 0 0");
        heaps.move(0, 2, 2);
        Check.due("a blunder", accountsOf(heaps, 0) + ", " + accountsOf(heaps, 1), "1 4 0 0 1, 0 0 0 0 0");
        // 1, 3 and the stick: VALUES 4 and 1.
        heaps.move(0, 1, 0);
        Check.due("another one", accountsOf(heaps, 0) + ", " + accountsOf(heaps, 1), "1 4 0 0 1, 1 1 0 0 1");
        heaps.move(0, 0, 2);
        Check.due("a winning move", accountsOf(heaps, 0) + ", " + accountsOf(heaps, 1), "2 6 0 1 1, 1 1 0 0 1");
        heaps.move(1, 1, 0);
        Check.due("with TOTAL 0 ahead", accountsOf(heaps, 0) + ", " + accountsOf(heaps, 1), "2 6 0 1 1, 2 2 0 0 1");
        heaps.move(0, 0, 1);
        Check.due("the last turn", accountsOf(heaps, 0) + ", " + accountsOf(heaps, 1), "3 7 1 2 1, 2 2 0 0 1");
        heaps.again(1);
        Check.due("they stay", accountsOf(heaps, 0) + ", " + accountsOf(heaps, 1), "3 7 1 2 1, 2 2 0 0 1");
    }

    /** "2 own turns behind which the game was over". */
    private static void lastTurns() {
        GoldenHeaps heaps = Check.loaded("rule a;stick 2 2;first 1;");
        heaps.move(0, 2, 0);
        Check.due("the player of the turn", heaps.account(1, 2), 1);
        Check.due("not the other one", heaps.account(0, 2), 0);
        heaps.again(0);
        heaps.move(0, 1, 0);
        Check.due("not over", heaps.account(0, 2), 0);
        heaps.move(0, 1, 0);
        Check.due("once more", heaps.account(1, 2), 2);
        // Units are left, but no move: over all the same.
        GoldenHeaps stuck = Check.loaded("rule a only 3 slack 0;board a 5 2;");
        stuck.move(0, 3, 0);
        Check.due("over with units left", stuck.account(0, 2), 1);
        stuck.setSlack(0, 1);
        stuck.move(0, 2, 2);
        Check.due("over again", stuck.account(1, 2), 1);
    }

    /** "A move is winning if TOTAL is 0 behind it."; "other moves made although there was a winning one". */
    private static void winningMovesAndBlunders() {
        int[][] due = {{7, 3, 3, 1, 0}, {7, 3, 2, 0, 1}, {8, 3, 1, 0, 0}, {8, 3, 3, 0, 0}, {1, 1, 1, 1, 0}};
        for (int[] row : due) {
            GoldenHeaps heaps = Check.loaded("rule a;stick " + row[0] + " " + row[1] + ";");
            heaps.move(0, row[2], 0);
            String told = row[2] + " of " + row[0] + " by " + row[1];
            Check.due("winning moves with " + told, heaps.account(0, 3), row[3]);
            Check.due("blunders with " + told, heaps.account(0, 4), row[4]);
        }
        // A move to a greater VALUE may be winning, too: the board goes from VALUE 0 to 2, which the stick has.
        GoldenHeaps up = Check.loaded("rule a only 1 2 slack 0;board a 3 0;stick 2 2;");
        Check.due("VALUES", up.part(0, 4) * 10 + up.part(1, 4), 2);
        Check.due("winning moves", up.count(7), 2);
        up.move(0, 1, 0);
        Check.due("winning moves made", up.account(0, 3), 1);
        Check.due("blunders", up.account(0, 4), 0);
    }

    /** Promise 9: "0 for the latest one"; "0 the player, 1 the part, 2 k, 3 l, 4 TOTAL behind it (as it was then)". */
    private static void numbersOfATurn() {
        GoldenHeaps heaps = Check.loaded("rule a slack 2;board a 40 40;board a 3 5;stick 9 4;first 1;");
        int[][] moves = {{0, 40, 39}, {2, 4, 0}, {1, 0, 5}, {1, 3, 0}, {0, 0, 1}};
        int[] totals = new int[moves.length];
        for (int i = 0; i < moves.length; i++) {
            totals[i] = heaps.move(moves[i][0], moves[i][1], moves[i][2]);
        }
        heaps.setSlack(0, 0);
        for (int i = 0; i < moves.length; i++) {
            int index = moves.length - 1 - i;
            int[] due = {(i + 1) % 2, moves[i][0], moves[i][1], moves[i][2], totals[i]};
            for (int what = 0; what < due.length; what++) {
                Check.due("turn(" + index + ", " + what + ")", heaps.turn(index, what), due[what]);
            }
        }
        Check.due("TOTAL behind the last turn", totals[4], 0);
    }

    /** "The latest 20 turns are kept". */
    private static void twentyTurns() {
        GoldenHeaps heaps = Check.loaded("rule a;stick 60 2;");
        for (int i = 1; i <= 22; i++) {
            heaps.move(0, i % 2 + 1, 0);
            int kept = i < 20 ? i : 20;
            Check.due("kept behind turn " + i, heaps.count(12), kept);
            Check.due("the oldest one", heaps.turn(kept - 1, 2), (i - kept + 1) % 2 + 1);
            Check.due("its player", heaps.turn(kept - 1, 0), (i - kept) % 2);
            Check.due("the latest one", heaps.turn(0, 2), i % 2 + 1);
            Check.noIndex("one more", () -> heaps.turn(kept, 0));
        }
        GoldenHeaps followed = Check.loaded("rule a;stick 21 1;");
        followed.follow(19);
        Check.due("19 turns", followed.count(12), 19);
        followed.follow(1);
        Check.due("20 turns", followed.count(12), 20);
        followed.follow(1);
        Check.due("21 turns", followed.count(12), 20);
        Check.due("all were made", followed.count(4), 21);
    }

    /** "The latest 20 turns are kept, those of earlier games, too." */
    private static void turnsOfEarlierGames() {
        GoldenHeaps heaps = Check.loaded("rule a;stick 12 1;");
        heaps.follow(12);
        heaps.again(1);
        Check.due("kept", heaps.count(12), 12);
        Check.due("the latest one", heaps.turn(0, 0), 1);
        heaps.follow(12);
        Check.due("kept", heaps.count(12), 20);
        Check.due("the first one of this game", heaps.turn(11, 0), 1);
        Check.due("the last one of the earlier game", heaps.turn(12, 0), 1);
        Check.due("the oldest one", heaps.turn(19, 0), 0);
        Check.due("turns of this game", heaps.count(4), 12);
    }

    // ---- section 5

    private static GoldenHeaps reasons() {
        return Check.loaded("rule a only 2 7 40 slack 2 most 10 bar 2 0 bar 5 6 bar 11 11 bar 3 0;"
            + "rule b slack 1 bar 4 9 bar 3 0;board a 12 20;board b 20 9;stick 8 5;stick 3 9;");
    }

    private static void dueReason(GoldenHeaps heaps, int part, int k, int l, int reason) {
        Check.due("whyNot " + part + " " + k + " " + l, heaps.whyNot(part, k, l), reason);
        Check.due("refused " + part + " " + k + " " + l, heaps.totalBehind(part, k, l) == -1, reason != 0);
    }

    /** "1 k or l is below 0, or both are 0". */
    private static void reasonOne() {
        GoldenHeaps heaps = reasons();
        int[] parts = {0, 1, 2, 3};
        for (int part : parts) {
            dueReason(heaps, part, 0, 0, 1);
            dueReason(heaps, part, -1, 0, 1);
            dueReason(heaps, part, 0, -1, 1);
            dueReason(heaps, part, 1, -1, 1);
            dueReason(heaps, part, -1, 1, 1);
            dueReason(heaps, part, -1, -1, 1);
            dueReason(heaps, part, Integer.MIN_VALUE, Integer.MIN_VALUE, 1);
            dueReason(heaps, part, Integer.MIN_VALUE, Integer.MAX_VALUE, 1);
            dueReason(heaps, part, Integer.MAX_VALUE, Integer.MIN_VALUE, 1);
        }
    }

    /** "2 k or l is more than there is (on a stick: k more than LENGTH, or l above 0)". */
    private static void reasonTwo() {
        GoldenHeaps heaps = Check.loaded("rule a;board a 12 9;stick 4 9;");
        dueReason(heaps, 0, 12, 0, 0);
        dueReason(heaps, 0, 13, 0, 2);
        dueReason(heaps, 0, 0, 9, 0);
        dueReason(heaps, 0, 0, 10, 2);
        dueReason(heaps, 0, 9, 9, 0);
        dueReason(heaps, 0, 10, 10, 2);
        dueReason(heaps, 0, 13, 13, 2);
        dueReason(heaps, 0, Integer.MAX_VALUE, Integer.MAX_VALUE, 2);
        dueReason(heaps, 0, 0, Integer.MAX_VALUE, 2);
        dueReason(heaps, 1, 4, 0, 0);
        dueReason(heaps, 1, 5, 0, 2);
        dueReason(heaps, 1, 0, 1, 2);
        dueReason(heaps, 1, 1, 1, 2);
        dueReason(heaps, 1, 4, Integer.MAX_VALUE, 2);
        dueReason(heaps, 1, Integer.MAX_VALUE, 0, 2);
    }

    /** "3 (on a stick) k is more than LIMIT". */
    private static void reasonThree() {
        GoldenHeaps heaps = reasons();
        dueReason(heaps, 2, 5, 0, 0);
        dueReason(heaps, 2, 6, 0, 3);
        dueReason(heaps, 2, 8, 0, 3);
        // A board knows no LIMIT.
        dueReason(heaps, 1, 10, 0, 0);
    }

    /** "4 (on a board) k or l is more than MOST; 5 ..; 6 ..; 7 the move is barred": each alone, and one step within. */
    private static void reasonsFourToSeven() {
        GoldenHeaps heaps = reasons();
        dueReason(heaps, 0, 10, 10, 0);
        dueReason(heaps, 0, 10, 11, 4);
        dueReason(heaps, 0, 11, 10, 4);
        dueReason(heaps, 0, 7, 0, 0);
        dueReason(heaps, 0, 8, 0, 5);
        dueReason(heaps, 0, 0, 7, 0);
        dueReason(heaps, 0, 0, 6, 5);
        dueReason(heaps, 0, 4, 5, 0);
        dueReason(heaps, 0, 4, 6, 6);
        dueReason(heaps, 0, 5, 4, 0);
        dueReason(heaps, 0, 6, 4, 6);
        dueReason(heaps, 0, 5, 6, 7);
        dueReason(heaps, 0, 6, 5, 0);
        dueReason(heaps, 0, 2, 0, 7);
        dueReason(heaps, 0, 0, 2, 0);
    }

    /** "Why a move is refused on a part is the first of these that applies". */
    private static void theFirstReason() {
        GoldenHeaps heaps = reasons();
        // 1 ahead of 2; 2 ahead of 3, of 4 and of 5; 4 ahead of 5, of 6 and of 7; 5 and 6 ahead of 7.
        dueReason(heaps, 0, -1, 99, 1);
        dueReason(heaps, 0, 99, -1, 1);
        dueReason(heaps, 3, 10, 0, 2);
        dueReason(heaps, 2, 9, 0, 2);
        dueReason(heaps, 2, 6, 1, 2);
        dueReason(heaps, 0, 13, 0, 2);
        dueReason(heaps, 0, 13, 20, 2);
        dueReason(heaps, 0, 11, 0, 4);
        dueReason(heaps, 0, 0, 20, 4);
        dueReason(heaps, 0, 1, 11, 4);
        dueReason(heaps, 0, 11, 11, 4);
        dueReason(heaps, 0, 3, 0, 5);
        dueReason(heaps, 1, 4, 9, 6);
        dueReason(heaps, 1, 3, 0, 7);
    }
}
