public final class Promise04SumTest {
    private static final Check CHECK = new Check("promise 4, sum");

    public static void main(String[] args) {
        itsNumber();
        noControlFoot();
        noSuchGroup();
        ofADetail();
        ofASum();
        resetLevels();
        behindInitiate();
        twenty();
        CHECK.end();
    }

    /** Groups: 1 detail, 2 control head 0, 3 to 8 control foots of levels 0 to 5. */
    private static ReportWriter fiveControls() {
        ReportWriter x = Check.withControls(new ReportWriter(20, 3, 15), 5);
        x.group(3, 0);
        x.group(2, 0);
        for (int level = 0; level <= 5; level++) {
            x.group(4, level);
        }
        return x;
    }

    private static int footOf(int level) {
        return level + 3;
    }

    private static void itsNumber() {
        CHECK.holds("A new sum of a control foot: its number, from 1 on");
        ReportWriter x = fiveControls();
        CHECK.due("the first one", x.sum(footOf(5), 0, 0), 1);
        CHECK.due("another one of the same foot", x.sum(footOf(5), 0, 0), 2);
        CHECK.due("one of another foot", x.sum(footOf(0), 0, 0), 3);
    }

    private static void noControlFoot() {
        CHECK.holds("-2 group is no control foot");
        for (int kind = 0; kind <= 6; kind++) {
            ReportWriter x = new ReportWriter(20, 3, 15);
            x.group(kind, 0);
            CHECK.due("kind " + kind, x.sum(1, 0, 0), kind == 4 ? 1 : -2);
        }
    }

    private static void noSuchGroup() {
        CHECK.holds("-2 group is no control foot", "there is no such group");
        ReportWriter x = new ReportWriter(20, 3, 15);
        CHECK.due("without groups", x.sum(1, 0, 0), -2);
        x.group(4, 0);
        CHECK.due("group 0", x.sum(0, 0, 0), -2);
        CHECK.due("group 1", x.sum(1, 0, 0), 1);
        CHECK.due("group 2", x.sum(2, 0, 0), -2);
        CHECK.due("group -1", x.sum(-1, 0, 0), -2);
        CHECK.due("group MIN", x.sum(Integer.MIN_VALUE, 0, 0), -2);
        CHECK.due("group MAX", x.sum(Integer.MAX_VALUE, 0, 0), -2);
    }

    private static void ofADetail() {
        CHECK.holds("-4 of is not 0, a detail");
        for (int kind = 0; kind <= 6; kind++) {
            ReportWriter x = Check.withControls(new ReportWriter(20, 3, 15), 1);
            x.group(4, 1);
            x.group(kind, 0);
            CHECK.due("of the foot itself", x.sum(1, 1, 0), -4);
            CHECK.due("of kind " + kind, x.sum(1, 2, 0), kind == 3 ? 1 : -4);
            CHECK.due("of no group", x.sum(1, 3, 0), -4);
            CHECK.due("of MAX", x.sum(1, Integer.MAX_VALUE, 0), -4);
            CHECK.due("of 0", x.sum(1, 0, 0), kind == 3 ? 2 : 1);
        }
    }

    private static void ofASum() {
        CHECK.holds("or minus a sum of a greater level's number (a lesser control)");
        ReportWriter x = fiveControls();
        CHECK.due("of no sum", x.sum(footOf(0), -1, 0), -4);
        CHECK.due("of MIN", x.sum(footOf(0), Integer.MIN_VALUE, 0), -4);
        CHECK.due("sum 1, of level 3", x.sum(footOf(3), 0, 0), 1);
        CHECK.due("of level 3 in level 5", x.sum(footOf(5), -1, 0), -4);
        CHECK.due("of level 3 in level 4", x.sum(footOf(4), -1, 0), -4);
        CHECK.due("of level 3 in level 3", x.sum(footOf(3), -1, 0), -4);
        CHECK.due("of level 3 in level 2", x.sum(footOf(2), -1, 0), 2);
        CHECK.due("of level 3 in level 0", x.sum(footOf(0), -1, 0), 3);
        CHECK.due("of level 2, itself a sum of a sum, in level 1", x.sum(footOf(1), -2, 0), 4);
        CHECK.due("of the last sum, of level 1, in level 0", x.sum(footOf(0), -4, 0), 5);
        CHECK.due("of the sum that it would be", x.sum(footOf(0), -6, 0), -4);
        CHECK.due("of a sum of level 0", x.sum(footOf(0), -5, 0), -4);
    }

    private static void resetLevels() {
        CHECK.holds("reset is not 0 .. the group's level");
        for (int level = 0; level <= 5; level++) {
            ReportWriter x = fiveControls();
            String of = "level " + level + ", reset ";
            CHECK.due(of + "MIN", x.sum(footOf(level), 0, Integer.MIN_VALUE), -4);
            CHECK.due(of + "-1", x.sum(footOf(level), 0, -1), -4);
            CHECK.due(of + (level + 1), x.sum(footOf(level), 0, level + 1), -4);
            CHECK.due(of + "MAX", x.sum(footOf(level), 0, Integer.MAX_VALUE), -4);
            for (int reset = 0; reset <= level; reset++) {
                CHECK.due(of + reset, x.sum(footOf(level), 0, reset), reset + 1);
            }
        }
    }

    private static void behindInitiate() {
        CHECK.holds("-5", "behind initiate()");
        ReportWriter x = fiveControls();
        CHECK.due("ahead of initiate()", x.sum(footOf(0), 0, 0), 1);
        x.initiate();
        CHECK.due("behind initiate()", x.sum(footOf(0), 0, 0), -5);
        x.generate(0, 1);
        CHECK.due("behind generate()", x.sum(footOf(0), 0, 0), -5);
        x.terminate();
        CHECK.due("behind terminate()", x.sum(footOf(0), 0, 0), 2);
    }

    private static void twenty() {
        CHECK.holds("NONE when there are 20");
        ReportWriter x = fiveControls();
        for (int number = 1; number <= 20; number++) {
            CHECK.due("sum " + number, x.sum(footOf(number % 6), 0, 0), number);
        }
        CHECK.due("the 21st", x.sum(footOf(0), 0, 0), -1);
        CHECK.due("the 21st, of another foot", x.sum(footOf(5), 1, 5), -1);
        x.initiate();
        x.generate(0, 9);
        CHECK.due("the 20th takes v", x.total(20), 9);
        CHECK.due("there is no 21st", x.total(21), 0);
    }
}
