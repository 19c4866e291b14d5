/** Promises 15 to 20, 27 and 32 to 35: what rules allow, and their tables. */
final class TablesTest {
    private static final String CHANGED = "rule a;rule b only 1 slack 0 bar 1 0;"
        + "rule c bar 1 0 bar 2 0 bar 3 0 bar 4 0;";

    public static void main(String[] args) {
        allows();
        whyNot();
        value();
        span();
        losing();
        partner();
        gap();
        changedBy();
        losingWith();
        shareAndMean();
        tablesFollowRules();
        Check.finish("TablesTest");
    }

    /** Promise 15. */
    private static void allows() {
        GoldenHeaps heaps = Check.loaded("rule a only 2 7 40 slack 2 most 30 bar 2 0 bar 5 6;rule b;rule c slack 0;"
            + "rule d only 40 slack 5;");
        Object[][] due = {{0, 0, 0, false}, {0, 7, 0, true}, {0, 0, 7, true}, {0, 2, 0, false}, {0, 0, 2, true},
            {0, 40, 0, false}, {0, 0, 40, false}, {0, 1, 0, false}, {0, 5, 5, true}, {0, 5, 6, false}, {0, 6, 5, true},
            {0, 5, 7, false}, {0, 30, 29, true}, {0, 30, 31, false}, {0, 31, 31, false}, {1, 0, 0, false},
            {1, 40, 0, true}, {1, 0, 1, true}, {1, 40, 40, true}, {1, 40, 39, false}, {2, 1, 1, false}, {2, 1, 0, true},
            {3, 40, 0, true}, {3, 39, 0, false}, {3, 36, 40, true}, {3, 35, 40, false}, {3, 1, 5, true},
            {3, 0, 0, false}};
        for (Object[] row : due) {
            Check.due("allows " + row[0] + " " + row[1] + " " + row[2],
                heaps.allows((int) row[0], (int) row[1], (int) row[2]), row[3]);
        }
        Check.noIndex("allows(4, 1, 1)", () -> heaps.allows(4, 1, 1));
        Check.noIndex("allows(-1, 41, 1)", () -> heaps.allows(-1, 41, 1));
        Check.noRange("allows(0, 41, 1)", () -> heaps.allows(0, 41, 1));
        Check.noRange("allows(0, 1, 41)", () -> heaps.allows(0, 1, 41));
        Check.noRange("allows(0, -1, 1)", () -> heaps.allows(0, -1, 1));
        Check.noRange("allows(0, 1, -1)", () -> heaps.allows(0, 1, -1));
    }

    /** Promise 16. */
    private static void whyNot() {
        GoldenHeaps heaps = Check.loaded("rule a only 2 7 40 slack 2 most 10 bar 2 0 bar 5 6;board a 12 11;stick 5 3;"
            + "stick 2 9;");
        int[][] due = {{0, -1, 50, 1}, {0, 50, -1, 1}, {0, 0, 0, 1}, {0, 13, 11, 2}, {0, 12, 12, 2}, {0, 0, 99, 2},
            {0, Integer.MAX_VALUE, 1, 2}, {0, Integer.MIN_VALUE, 1, 1}, {0, 11, 10, 4}, {0, 10, 11, 4}, {0, 11, 0, 4},
            {0, 10, 0, 5}, {0, 0, 3, 5}, {0, 3, 5, 6}, {0, 5, 3, 6}, {0, 5, 6, 7}, {0, 2, 0, 7}, {0, 0, 2, 0},
            {0, 10, 10, 0}, {0, 6, 5, 0}, {1, 0, 0, 1}, {1, -1, 0, 1}, {1, 1, -1, 1}, {1, 6, 0, 2}, {1, 1, 1, 2},
            {1, 0, 1, 2}, {1, 4, 0, 3}, {1, 3, 0, 0}, {1, 1, 0, 0}, {2, 3, 0, 2}, {2, 10, 0, 2}, {2, 2, 0, 0}};
        for (int[] row : due) {
            Check.due("whyNot " + row[0] + " " + row[1] + " " + row[2], heaps.whyNot(row[0], row[1], row[2]), row[3]);
        }
        heaps.move(0, 10, 10);
        Check.due("as all is then", heaps.whyNot(0, 6, 5), 2);
        Check.noIndex("whyNot(3, 1, 1)", () -> heaps.whyNot(3, 1, 1));
        Check.noIndex("whyNot(-1, -1, 1)", () -> heaps.whyNot(-1, -1, 1));
    }

    /** Promise 17. */
    private static void value() {
        GoldenHeaps heaps = Check.loaded("rule plain;rule nim slack 0;rule few only 1 2 slack 0;rule none only 40 slack 0;");
        int[][] plain = {{0, 1, 2, 3, 4, 5}, {1, 2, 0, 4, 5, 3}, {2, 0, 1, 5, 3, 4}, {3, 4, 5, 6, 2, 0},
            {4, 5, 3, 2, 7, 6}, {5, 3, 4, 0, 6, 8}};
        for (int x = 0; x < 6; x++) {
            for (int y = 0; y < 6; y++) {
                Check.due("value " + x + " " + y, heaps.value(0, x, y), plain[x][y]);
            }
        }
        for (int place = 0; place < 1681; place++) {
            int x = place / 41;
            int y = place % 41;
            Check.due("nim " + x + " " + y, heaps.value(1, x, y), x ^ y);
            Check.due("few " + x + " " + y, heaps.value(2, x, y), x % 3 ^ y % 3);
            Check.due("none " + x + " " + y, heaps.value(3, x, y), x / 40 ^ y / 40);
        }
        Check.noIndex("value(4, 0, 0)", () -> heaps.value(4, 0, 0));
        Check.noIndex("value(-1, -1, 0)", () -> heaps.value(-1, -1, 0));
        Check.noRange("value(0, 41, 0)", () -> heaps.value(0, 41, 0));
        Check.noRange("value(0, 0, 41)", () -> heaps.value(0, 0, 41));
        Check.noRange("value(0, -1, 0)", () -> heaps.value(0, -1, 0));
        Check.noRange("value(0, 0, -1)", () -> heaps.value(0, 0, -1));
    }

    /** Promise 18. */
    private static void span() {
        GoldenHeaps heaps = Check.loaded("rule plain;rule few only 1 2 slack 0;rule none only 40 slack 0;");
        Check.due("no moves", heaps.span(0, 0, 0), 0);
        // 1, 2 leads to 0, 1 at the latest, and that to 0, 0.
        Check.due("losing", heaps.span(0, 1, 2), 2);
        Check.due("winning", heaps.span(0, 7, 0), 1);
        Check.due("winning", heaps.span(0, 0, 7), 1);
        Check.due("winning", heaps.span(0, 2, 2), 1);
        Check.due("winning by 1, 2 alone", heaps.span(0, 2, 3), 3);
        Check.due("losing", heaps.span(0, 3, 5), 4);
        for (int x = 0; x <= 40; x++) {
            Check.due("few " + x, heaps.span(1, x, 0), x / 3 * 2 + (x % 3 == 0 ? 0 : 1));
            Check.due("none " + x, heaps.span(2, x, 39), x / 40);
        }
        Check.due("none", heaps.span(2, 40, 40), 2);
        Check.noIndex("span(3, 0, 0)", () -> heaps.span(3, 0, 0));
        Check.noIndex("span(-1, 99, 0)", () -> heaps.span(-1, 99, 0));
        Check.noRange("span(0, 41, 0)", () -> heaps.span(0, 41, 0));
        Check.noRange("span(0, 0, 41)", () -> heaps.span(0, 0, 41));
        Check.noRange("span(0, -1, 0)", () -> heaps.span(0, -1, 0));
        Check.noRange("span(0, 0, -1)", () -> heaps.span(0, 0, -1));
    }

    /** Promise 19. */
    private static void losing() {
        GoldenHeaps heaps = Check.loaded("rule plain;rule nim slack 0;");
        int[][] due = {{0, 0}, {1, 2}, {2, 1}, {3, 5}, {4, 7}, {5, 3}, {6, 10}, {7, 4}, {8, 13}, {9, 15}, {10, 6}};
        for (int index = 0; index < due.length; index++) {
            Check.due("losing " + index, heaps.losing(0, index, false), due[index][0]);
            Check.due("losing " + index, heaps.losing(0, index, true), due[index][1]);
        }
        Check.due("last", heaps.losing(0, 30, false), 39);
        Check.due("last", heaps.losing(0, 30, true), 24);
        Check.due("none", heaps.losing(0, 31, true), -1);
        Check.due("none", heaps.losing(0, -1, true), -1);
        Check.due("none", heaps.losing(0, Integer.MAX_VALUE, false), -1);
        Check.due("last", heaps.losing(1, 40, false), 40);
        Check.due("none", heaps.losing(1, 41, false), -1);
        Check.noIndex("losing(2, 0, true)", () -> heaps.losing(2, 0, true));
        Check.noIndex("losing(-1, 0, true)", () -> heaps.losing(-1, 0, true));
    }

    /** Promise 20. */
    private static void partner() {
        GoldenHeaps heaps = Check.loaded("rule plain;rule few only 1 2 slack 0;");
        int[] due = {0, 2, 1, 5, 7, 3, 10, 4, 13, 15, 6, 18};
        for (int x = 0; x < due.length; x++) {
            Check.due("partner of " + x, heaps.partner(0, x), due[x]);
        }
        Check.due("partner of 39", heaps.partner(0, 39), 24);
        Check.due("partner of 40", heaps.partner(0, 40), -1);
        Check.due("the smallest one", heaps.partner(1, 40), 1);
        heaps.setSlack(0, 0);
        Check.due("the greatest x", heaps.partner(0, 40), 40);
        Check.noIndex("partner(2, 0)", () -> heaps.partner(2, 0));
        Check.noIndex("partner(-1, -1)", () -> heaps.partner(-1, -1));
        Check.noRange("partner(0, 41)", () -> heaps.partner(0, 41));
        Check.noRange("partner(0, -1)", () -> heaps.partner(0, -1));
    }

    /** Promise 27. */
    private static void gap() {
        GoldenHeaps heaps = Check.loaded("rule a;rule b only 1;rule c most 39;rule d bar 1 1;");
        for (int slack = 1; slack <= 5; slack++) {
            heaps.setSlack(0, slack);
            Check.due("gap with SLACK " + slack, heaps.gap(0), 0);
        }
        heaps.setSlack(0, 0);
        for (int rule = 0; rule < 4; rule++) {
            Check.due("gap of no free rule", heaps.gap(rule), -1);
        }
        Check.noIndex("gap(4)", () -> heaps.gap(4));
        Check.noIndex("gap(-1)", () -> heaps.gap(-1));
    }

    /** Promise 32. */
    private static void changedBy() {
        GoldenHeaps heaps = Check.loaded(CHANGED);
        Check.due("not allowed anyway", heaps.changedBy(0, 1, 2), 0);
        // While 0, 1 alone is allowed, the 21 even y are losing; with 1, 0 too, those with x + y even.
        Check.due("allowed again", heaps.changedBy(1, 1, 0), 20 * 41);
        // With 0, 1 barred too, all positions are losing.
        Check.due("both barred", heaps.changedBy(1, 0, 1), 41 * 20);
        int[][] asked = {{0, 1, 0}, {0, 40, 40}, {0, 0, 40}, {2, 5, 0}, {2, 1, 0}, {2, 4, 0}, {2, 1, 1}};
        for (int[] row : asked) {
            Check.due("changedBy", heaps.changedBy(row[0], row[1], row[2]), counted(row[0], row[1], row[2]));
        }
        Check.due("nothing changed", Check.rule(heaps, 2), "rule c slack 1 most 40 bar 1 0 bar 2 0 bar 3 0 bar 4 0");
        Check.noIndex("changedBy(3, 1, 1)", () -> heaps.changedBy(3, 1, 1));
        Check.noIndex("changedBy(-1, 0, 0)", () -> heaps.changedBy(-1, 0, 0));
        Check.noRange("changedBy(0, 0, 0)", () -> heaps.changedBy(0, 0, 0));
        Check.noRange("changedBy(0, 41, 0)", () -> heaps.changedBy(0, 41, 0));
        Check.noRange("changedBy(0, 0, 41)", () -> heaps.changedBy(0, 0, 41));
        Check.noRange("changedBy(0, -1, 1)", () -> heaps.changedBy(0, -1, 1));
        Check.noRange("changedBy(0, 1, -1)", () -> heaps.changedBy(0, 1, -1));
    }

    /** The same by the tables of the model, which knows no limit of bars. */
    private static int counted(int rule, int k, int l) {
        Model model = new Model();
        model.appendText(CHANGED);
        model.truncateInput(CHANGED.length());
        Check.due("the model's rules", model.loadHeaps() + model.count(0), 3);
        return model.changedBy(rule, k, l);
    }

    /** Promise 33. */
    private static void losingWith() {
        GoldenHeaps heaps = Check.loaded("rule a;rule b only 1 2 most 2;rule c most 7 bar 1 1;");
        Check.due("nim", heaps.losingWith(0, 0), 41);
        Check.due("the same", heaps.losingWith(0, 1), 31);
        Check.due("slack 2", heaps.losingWith(0, 2), 25);
        Check.due("few", heaps.losingWith(1, 0), 14 * 14 + 14 * 14 + 13 * 13);
        for (int rule = 0; rule < 3; rule++) {
            for (int slack = 0; slack <= 5; slack++) {
                int with = heaps.losingWith(rule, slack);
                int before = heaps.setSlack(rule, slack);
                Check.due("losingWith " + rule + " " + slack, with, heaps.rule(rule, 6));
                heaps.setSlack(rule, before);
            }
            Check.due("SLACK stays", heaps.rule(rule, 0), 1);
        }
        Check.noIndex("losingWith(3, 0)", () -> heaps.losingWith(3, 0));
        Check.noIndex("losingWith(-1, 6)", () -> heaps.losingWith(-1, 6));
        Check.noRange("losingWith(0, 6)", () -> heaps.losingWith(0, 6));
        Check.noRange("losingWith(0, -1)", () -> heaps.losingWith(0, -1));
    }

    /** The tables are those of the rules as they are now. */
    private static void tablesFollowRules() {
        GoldenHeaps heaps = Check.loaded("rule b;rule a slack 5 most 30;");
        Check.dueSameTable(heaps, Check.loaded("rule b;rule a slack 5 most 30;"), 1);
        heaps.setSlack(1, 0);
        Check.dueSameTable(heaps, Check.loaded("rule b;rule a slack 0 most 30;"), 1);
        heaps.setMost(1, 1);
        Check.dueSameTable(heaps, Check.loaded("rule b;rule a slack 0 most 1;"), 1);
        heaps.bar(1, 1, 0, true);
        heaps.keep(0);
        Check.dueSameTable(heaps, Check.loaded("rule b;rule a slack 0 most 1 bar 1 0;"), 1);
        heaps.bar(1, 0, 1, true);
        Check.dueSameTable(heaps, Check.loaded("rule b;rule a slack 0 most 1 bar 1 0 bar 0 1;"), 1);
        Check.due("no moves", heaps.rule(1, 5) + heaps.rule(1, 8), 0);
        heaps.bar(1, 1, 0, false);
        Check.dueSameTable(heaps, Check.loaded("rule b;rule a slack 0 most 1 bar 0 1;"), 1);
        heaps.undo();
        heaps.undo();
        Check.dueSameTable(heaps, Check.loaded("rule b;rule a slack 0 most 1 bar 1 0;"), 1);
        heaps.setMost(1, 40);
        heaps.setSlack(1, 2);
        heaps.changedBy(1, 2, 2);
        heaps.losingWith(1, 4);
        Check.dueSameTable(heaps, Check.loaded("rule b;rule a slack 2 bar 1 0;"), 1);
        heaps.bringBack(0);
        Check.dueSameTable(heaps, Check.loaded("rule b;rule a slack 0 most 1 bar 1 0;"), 1);
        Check.dueSameTable(heaps, Check.loaded("rule b;"), 0);
    }

    /** Promises 34 and 35. */
    private static void shareAndMean() {
        GoldenHeaps heaps = Check.loaded("rule a;rule few only 1 2 slack 0;rule none only 40 slack 0 bar 40 0 bar 0 40;");
        Check.due("share", heaps.share(0), 31f / 1681f);
        Check.due("share", heaps.share(1), 561f / 1681f);
        Check.due("share", heaps.share(2), 1f);
        int sum = 0;
        for (int place = 0; place < 1681; place++) {
            sum += heaps.value(0, place / 41, place % 41);
        }
        Check.due("mean", heaps.meanValue(0), (double) sum / 1681.0);
        // Pairs of remainders 0, 1, 2 (14, 14 and 13 heaps): 1 and 2 stand for VALUE, 1 with 2 for 3.
        Check.due("mean", heaps.meanValue(1), (double) (2 * (14 * 14 * 1 + 14 * 13 * 2 + 14 * 13 * 3)) / 1681.0);
        Check.due("mean", heaps.meanValue(2), 0.0);
        Check.noIndex("share(3)", () -> heaps.share(3));
        Check.noIndex("share(-1)", () -> heaps.share(-1));
        Check.noIndex("meanValue(3)", () -> heaps.meanValue(3));
        Check.noIndex("meanValue(-1)", () -> heaps.meanValue(-1));
    }
}
