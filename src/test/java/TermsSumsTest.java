/** The document's SUMS: what they take, how they are rolled on and when they are reset. */
public final class TermsSumsTest {
    private static final Check CHECK = new Check("terms, SUMS");

    public static void main(String[] args) {
        everyV();
        thatDetailAlone();
        rolledWhenItsFootIsPrinted();
        rolledWithoutLines();
        rolledThoughSuppressed();
        rolledAheadOfResetting();
        rolledThroughAllLevels();
        resetBehindItsLevel();
        resetAtTheEnd();
        eachLevelBehindItsFoot();
        levelsWithoutFoot();
        goesRound();
        CHECK.end();
    }

    /** So many controls; groups: 1, 2 details, then the foots from level 0 on, with or without a line. */
    private static ReportWriter withFoots(int controls, int... lines) {
        ReportWriter x = Check.withControls(new ReportWriter(100, 4, 99), controls);
        x.group(3, 0);
        x.group(3, 0);
        for (int level = 0; level <= controls; level++) {
            Check.relativeGroup(x, 4, level, lines);
        }
        return x;
    }

    private static int footOf(int level) {
        return level + 3;
    }

    private static void everyV() {
        CHECK.holds("OF 0 every v");
        ReportWriter x = withFoots(0);
        x.sum(footOf(0), 0, 0);
        x.initiate();
        x.generate(1, 1);
        x.generate(2, 10);
        x.generate(0, 100);
        CHECK.totals(x, 111);
        x.generate(3, 1000); // refused
        CHECK.totals(x, 111);
    }

    private static void thatDetailAlone() {
        CHECK.holds("of a detail's number v of that detail alone (of a summary none)");
        ReportWriter x = withFoots(0);
        x.sum(footOf(0), 1, 0);
        x.sum(footOf(0), 2, 0);
        x.initiate();
        x.generate(1, 1);
        CHECK.totals(x, 1, 0);
        x.generate(2, 10);
        CHECK.totals(x, 1, 10);
        x.generate(0, 100);
        CHECK.totals(x, 1, 10);
    }

    private static void rolledWhenItsFootIsPrinted() {
        CHECK.holds("of minus a sum: that one's total when its control foot is printed");
        ReportWriter x = withFoots(2, 1);
        x.sum(footOf(2), 0, 2);
        x.sum(footOf(1), -1, 0);
        x.initiate();
        x.generate(0, 5);
        x.generate(0, 6);
        CHECK.totals(x, 11, 0);
        x.set(2, 2);
        x.generate(0, 7);
        CHECK.totals(x, 7, 11);
        x.set(2, 3);
        x.generate(0, 8);
        CHECK.totals(x, 8, 18);
    }

    private static void rolledWithoutLines() {
        CHECK.holds("(or would be: without lines, or suppressed)", "without lines");
        ReportWriter x = withFoots(1);
        x.sum(footOf(1), 0, 1);
        x.sum(footOf(0), -1, 0);
        x.initiate();
        x.generate(0, 5);
        x.set(1, 2);
        CHECK.due("nothing is printed", x.generate(0, 6), 0);
        CHECK.totals(x, 6, 5);
    }

    private static void rolledThoughSuppressed() {
        CHECK.holds("(or would be: without lines, or suppressed)", "suppressed");
        ReportWriter x = withFoots(1, 1);
        x.sum(footOf(1), 0, 1);
        x.sum(footOf(0), -1, 0);
        x.initiate();
        x.generate(0, 5);
        x.suppress(footOf(1));
        x.set(1, 2);
        CHECK.due("the foot is suppressed", x.generate(0, 6), 0);
        CHECK.totals(x, 6, 5);
        x.set(1, 3);
        CHECK.due("the next one is printed", x.generate(0, 7), 1);
        CHECK.totals(x, 7, 11);
    }

    private static void rolledAheadOfResetting() {
        CHECK.holds("ahead of its resetting");
        ReportWriter x = withFoots(2, 1);
        x.sum(footOf(2), 0, 2);
        x.sum(footOf(1), -1, 1);
        x.sum(footOf(2), 0, 1); // not reset at its own level, so that it is rolled with what it had
        x.sum(footOf(1), -3, 1);
        x.initiate();
        x.generate(0, 5);
        x.set(2, 2);
        x.generate(0, 6);
        CHECK.totals(x, 6, 5, 11, 5);
        x.set(2, 3);
        x.generate(0, 7);
        CHECK.totals(x, 7, 11, 18, 16);
        x.set(1, 2);
        x.generate(0, 1);
        CHECK.totals(x, 1, 0, 1, 0);
        int last = x.lines() - 1;
        CHECK.due("the foot of level 1 tells 11 and 7", x.at(last, 4), 18);
    }

    private static void rolledThroughAllLevels() {
        CHECK.holds("of minus a sum: that one's total when its control foot is printed", "from level 5 to level 0");
        ReportWriter x = withFoots(5, 1);
        x.sum(footOf(5), 0, 5);
        for (int level = 4; level >= 0; level--) {
            x.sum(footOf(level), level - 5, level);
        }
        x.initiate();
        x.generate(0, 1);
        for (int level = 5; level >= 1; level--) {
            x.set(level, 2);
            x.generate(0, 1);
        }
        CHECK.totals(x, 1, 0, 0, 0, 0, 5);
        x.terminate();
        CHECK.due("the foot of level 0", x.at(x.lines() - 1, 4), 6);
    }

    private static void resetBehindItsLevel() {
        CHECK.holds("After a control foot of level k of a break or the end, sums whose RESET level is k become 0", "a break");
        for (int reset = 0; reset <= 5; reset++) {
            for (int level = 1; level <= 5; level++) {
                ReportWriter x = withFoots(5, 1);
                x.sum(footOf(5), 0, reset);
                x.initiate();
                x.generate(0, 5);
                x.set(level, 2);
                x.generate(0, 6);
                boolean isReset = reset >= level;
                CHECK.due("total(1), reset " + reset + ", a break of level " + level, x.total(1), isReset ? 6 : 11);
            }
        }
    }

    private static void resetAtTheEnd() {
        CHECK.holds("After a control foot of level k of a break or the end, sums whose RESET level is k become 0", "the end");
        ReportWriter x = withFoots(5, 1);
        for (int reset = 0; reset <= 5; reset++) {
            x.sum(footOf(5), 0, reset);
        }
        x.initiate();
        x.generate(0, 5);
        CHECK.totals(x, 5, 5, 5, 5, 5, 5);
        x.terminate();
        CHECK.totals(x, 0, 0, 0, 0, 0, 0);
    }

    private static void eachLevelBehindItsFoot() {
        CHECK.holds("(all foots of a break are printed, each level's sums being rolled and reset behind it, from the last level on");
        ReportWriter x = withFoots(2, 1);
        x.sum(footOf(2), 1, 2);
        x.sum(footOf(1), -1, 1);
        x.sum(footOf(0), -2, 0);
        x.initiate();
        x.generate(1, 10);
        x.generate(2, 5);
        x.set(2, 2);
        x.generate(1, 3);
        CHECK.totals(x, 3, 10, 0);
        x.set(1, 2);
        x.generate(1, 1); // 3 is rolled to level 1 ahead of its foot, 13 to level 0 behind it
        CHECK.totals(x, 1, 0, 13);
        x.set(1, 3);
        x.set(2, 3);
        x.generate(0, 100);
        CHECK.totals(x, 0, 0, 14);
        x.terminate();
        CHECK.column(x, 2, 5, 5, 4, 5, 4, 5, 4, 3);
        CHECK.column(x, 4, 10, 3, 13, 1, 1, 0, 0, 14);
    }

    private static void levelsWithoutFoot() {
        CHECK.holds("also levels without a foot)");
        ReportWriter x = Check.withControls(new ReportWriter(20, 3, 15), 2);
        x.group(4, 2);
        x.sum(1, 0, 1);
        x.sum(1, 0, 0);
        x.initiate();
        x.generate(0, 7);
        x.set(2, 2);
        x.generate(0, 1);
        CHECK.totals(x, 8, 8);
        x.set(1, 2);
        x.generate(0, 4);
        CHECK.totals(x, 4, 12);
        x.terminate();
        CHECK.totals(x, 0, 0);
    }

    private static void goesRound() {
        CHECK.holds("that one's total when its control foot is printed", "a long goes round");
        ReportWriter x = withFoots(1, 1);
        x.sum(footOf(1), 0, 1);
        x.sum(footOf(0), -1, 0);
        x.initiate();
        x.generate(0, Long.MAX_VALUE);
        x.set(1, 2);
        x.generate(0, 1);
        CHECK.totals(x, 1, Long.MAX_VALUE);
        x.set(1, 3);
        x.generate(0, 0);
        CHECK.totals(x, 0, Long.MIN_VALUE);
    }
}
