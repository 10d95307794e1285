public final class Promise14SuppressTest {
    private static final Check CHECK = new Check("promise 14, suppress");

    public static void main(String[] args) {
        theNextTime();
        onlyThatGroup();
        noPageIsTurned();
        aFootOfABreak();
        withoutLines();
        toldAlready();
        noSuchGroup();
        CHECK.end();
    }

    /** One group of each kind, one line each, numbered kind + 1. */
    private static ReportWriter oneOfEachKind() {
        ReportWriter x = new ReportWriter(20, 3, 15);
        for (int kind = 0; kind <= 6; kind++) {
            Check.relativeGroup(x, kind, 0, 1);
        }
        return x;
    }

    private static void theNextTime() {
        CHECK.holds("A group is not printed the next time that it would be");
        int[] pagesWithout = {2, 3, 3, 3, 3, 3, 2};
        for (int kind = 0; kind <= 6; kind++) {
            ReportWriter x = oneOfEachKind();
            x.suppress(kind + 1);
            x.initiate();
            x.generate(4, 1);
            CHECK.due("lines without one of kind " + kind, x.terminate(), 6);
            CHECK.due("pages without one of kind " + kind, x.counter(0), pagesWithout[kind]);
            for (int i = 0; i < 6; i++) {
                CHECK.due("group of line " + i, x.at(i, 2), i < kind ? i + 1 : i + 2);
            }
            x.initiate();
            x.generate(4, 1);
            CHECK.due("the time behind it is printed, kind " + kind, x.terminate(), 7);
            CHECK.due("pages", x.counter(0), 3);
        }
    }

    private static void onlyThatGroup() {
        CHECK.holds("A group is not printed the next time that it would be", "another one's time is not its own");
        ReportWriter x = new ReportWriter(20, 3, 15);
        Check.relativeGroup(x, 3, 0, 1);
        Check.relativeGroup(x, 3, 0, 1);
        x.initiate();
        x.suppress(1);
        CHECK.due("another detail", x.generate(2, 5), 1);
        CHECK.due("a summary", x.generate(0, 5), 0);
        CHECK.due("a refused one", x.generate(3, 5), -2);
        CHECK.due("the suppressed one", x.generate(1, 5), 0);
        CHECK.due("the time behind it", x.generate(1, 5), 1);
        x.suppress(1);
        x.terminate();
        x.initiate();
        CHECK.due("the next time is in the next report", x.generate(1, 5), 0);
        CHECK.due("the time behind it", x.generate(1, 5), 1);
    }

    private static void noPageIsTurned() {
        CHECK.holds("A group is not printed the next time that it would be", "and turns no page");
        ReportWriter x = new ReportWriter(20, 3, 4);
        Check.relativeGroup(x, 3, 0, 1);
        Check.relativeGroup(x, 3, 0, 1, 1);
        x.initiate();
        x.generate(1, 1);
        x.suppress(2);
        x.generate(2, 1);
        CHECK.due("counter(0)", x.counter(0), 1);
        x.generate(1, 1);
        CHECK.row(x, 1, 1, 4, 1, 0, 1);
    }

    private static void aFootOfABreak() {
        CHECK.holds("A group is not printed the next time that it would be", "a head and a foot of a break");
        ReportWriter x = Check.withControls(new ReportWriter(20, 3, 15), 1);
        Check.relativeGroup(x, 2, 1, 1);
        Check.relativeGroup(x, 4, 1, 1);
        x.initiate();
        x.generate(0, 3);
        x.suppress(1);
        x.suppress(2);
        x.generate(0, 3);
        CHECK.due("not used up without a break", x.suppress(1) + x.suppress(2), 0);
        x.set(1, 2);
        CHECK.due("the break with both suppressed", x.generate(0, 4), 0);
        CHECK.due("it is a break", x.counter(5), 1);
        x.set(1, 3);
        CHECK.due("the next break", x.generate(0, 4), 2);
    }

    private static void withoutLines() {
        CHECK.holds("(one without lines: it is used up alike)");
        for (int kind = 0; kind <= 6; kind++) {
            ReportWriter x = new ReportWriter(20, 3, 15);
            x.group(3, 0);
            int group = x.group(kind, 0);
            x.suppress(group);
            x.initiate();
            CHECK.due("not yet used up, kind " + kind, x.suppress(group), 0);
            x.generate(kind == 3 ? group : 1, 1);
            x.terminate();
            CHECK.due("used up, kind " + kind, x.suppress(group), 1);
        }
    }

    private static void toldAlready() {
        CHECK.holds("1; 0 when that was told already");
        for (int kind = 0; kind <= 6; kind++) {
            ReportWriter x = oneOfEachKind();
            CHECK.due("kind " + kind, x.suppress(kind + 1), 1);
            CHECK.due("again, kind " + kind, x.suppress(kind + 1), 0);
            CHECK.due("another one", x.suppress(kind == 0 ? 7 : kind), 1);
            x.initiate();
            CHECK.due("behind initiate(), kind " + kind, x.suppress(kind + 1), 0);
            x.generate(4, 1);
            x.terminate();
            CHECK.due("told twice, once not printed, kind " + kind, x.lines(), 5);
            CHECK.due("anew, kind " + kind, x.suppress(kind + 1), 1);
            CHECK.due("anew again, kind " + kind, x.suppress(kind + 1), 0);
        }
    }

    private static void noSuchGroup() {
        CHECK.holds("-2", "no such group");
        ReportWriter x = new ReportWriter(20, 3, 15);
        CHECK.due("without groups, suppress(1)", x.suppress(1), -2);
        x.group(3, 0);
        x.group(1, 0);
        int[] none = {0, 3, -1, -2, Integer.MIN_VALUE, Integer.MAX_VALUE};
        for (int group : none) {
            CHECK.due("suppress(" + group + ")", x.suppress(group), -2);
        }
        CHECK.due("suppress(1)", x.suppress(1), 1);
        CHECK.due("suppress(2)", x.suppress(2), 1);
    }
}
