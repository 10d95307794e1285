public final class Promise04SumTest {
    private static final Check CHECK = new Check("promise 4, sum");

    public static void main(String[] args) {
        whatIsSummed();
        resetLevels();
        twentyAndOrder();
        rollingAndResetting();
        withoutFootOfResetLevel();
        CHECK.end();
    }

    /** Groups: 1 detail, 2 control head 0, 3 to 5 control foots 0 to 2. */
    private static ReportWriter twoControls() {
        ReportWriter x = new ReportWriter(20, 3, 15);
        x.control(1);
        x.control(1);
        Check.relativeGroup(x, 3, 0, 1);
        x.group(2, 0);
        Check.relativeGroup(x, 4, 0, 1);
        Check.relativeGroup(x, 4, 1, 1);
        Check.relativeGroup(x, 4, 2, 1);
        return x;
    }

    private static void whatIsSummed() {
        ReportWriter x = twoControls();
        CHECK.due("sum of a detail", x.sum(1, 0, 0), -2);
        CHECK.due("sum of a control head", x.sum(2, 0, 0), -2);
        CHECK.due("sum of no group", x.sum(6, 0, 0), -2);
        CHECK.due("sum of group 0", x.sum(0, 0, 0), -2);
        CHECK.due("of a head", x.sum(3, 2, 0), -4);
        CHECK.due("of a foot", x.sum(3, 3, 0), -4);
        CHECK.due("of no group", x.sum(3, 6, 0), -4);
        CHECK.due("of MAX", x.sum(3, Integer.MAX_VALUE, 0), -4);
        CHECK.due("of no sum", x.sum(3, -1, 0), -4);
        CHECK.due("of MIN", x.sum(3, Integer.MIN_VALUE, 0), -4);
        CHECK.due("of every v", x.sum(4, 0, 0), 1);
        CHECK.due("of the detail", x.sum(4, 1, 0), 2);
        CHECK.due("of a sum of the same level", x.sum(4, -1, 0), -4);
        CHECK.due("of a sum of a greater control", x.sum(5, -1, 0), -4);
        CHECK.due("of a sum of a lesser control", x.sum(3, -2, 0), 3);
        CHECK.due("of a sum that isn't yet", x.sum(3, -4, 0), -4);
    }

    private static void resetLevels() {
        ReportWriter x = twoControls();
        CHECK.due("reset -1", x.sum(4, 0, -1), -4);
        CHECK.due("reset 2 of level 1", x.sum(4, 0, 2), -4);
        CHECK.due("reset 1 of level 0", x.sum(3, 0, 1), -4);
        CHECK.due("reset 0 of level 1", x.sum(4, 0, 0), 1);
        CHECK.due("reset 1 of level 1", x.sum(4, 0, 1), 2);
        CHECK.due("reset 2 of level 2", x.sum(5, 0, 2), 3);
    }

    private static void twentyAndOrder() {
        ReportWriter x = twoControls();
        for (int number = 1; number <= 20; number++) {
            CHECK.due("sum(3, 0, 0)", x.sum(3, 0, 0), number);
        }
        CHECK.due("the 21st", x.sum(3, 0, 0), -1);
        CHECK.due("-2 ahead of -4", x.sum(1, 99, 9), -2);
        CHECK.due("-4 ahead of NONE", x.sum(3, 99, 0), -4);
        x.initiate();
        CHECK.due("-5 ahead of NONE", x.sum(3, 0, 0), -5);
        CHECK.due("-4 ahead of -5", x.sum(3, 0, 1), -4);
        CHECK.due("-2 ahead of -5", x.sum(1, 0, 0), -2);
    }

    private static void totals(ReportWriter x, long... want) {
        for (int i = 0; i < want.length; i++) {
            CHECK.due("total(" + (i + 1) + ")", x.total(i + 1), want[i]);
        }
    }

    private static void rollingAndResetting() {
        ReportWriter x = twoControls();
        x.sum(5, 1, 2);  // 1: the detail's v, a level 2
        x.sum(5, 0, 1);  // 2: every v, kept until a break of level 1
        x.sum(4, -1, 1); // 3: sum 1, rolled
        x.sum(4, -2, 0); // 4: sum 2, rolled at each foot of level 2
        x.sum(3, -3, 0); // 5: sum 3, rolled
        x.initiate();
        x.generate(1, 10);
        x.generate(0, 5);
        totals(x, 10, 15, 0, 0, 0);
        x.set(2, 2);
        x.generate(1, 3);
        totals(x, 3, 18, 10, 15, 0);
        x.set(1, 2);
        x.generate(1, 1);
        totals(x, 1, 1, 0, 33, 13);
        x.set(1, 3);
        x.set(2, 3);
        x.generate(0, 100);
        totals(x, 0, 100, 0, 34, 14);
        x.terminate();
        totals(x, 0, 0, 0, 0, 0);
        int last = x.lines() - 1;
        CHECK.due("foot 0 tells sum 5", x.at(last, 4), 14);
        CHECK.due("foot 1 tells sum 3", x.at(last - 1, 4), 0);
        CHECK.due("foot 2 tells sum 1", x.at(last - 2, 4), 0);
    }

    private static void withoutFootOfResetLevel() {
        ReportWriter x = new ReportWriter(20, 3, 15);
        x.control(1);
        x.control(1);
        x.group(4, 2);
        x.sum(1, 0, 1);
        x.initiate();
        x.generate(0, 7);
        x.set(2, 2);
        x.generate(0, 1);
        CHECK.due("a break of level 2 leaves it", x.total(1), 8);
        x.set(1, 2);
        x.generate(0, 4);
        CHECK.due("a break of level 1 resets it, without a foot there", x.total(1), 4);
    }
}
