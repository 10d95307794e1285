public final class Promise14SuppressTest {
    private static final Check CHECK = new Check("promise 14, suppress");

    public static void main(String[] args) {
        answers();
        everyKind();
        withoutLines();
        noPageForSuppressed();
        rolledAllTheSame();
        CHECK.end();
    }

    private static void answers() {
        ReportWriter x = new ReportWriter(20, 3, 15);
        CHECK.due("suppress(1), no group", x.suppress(1), -2);
        Check.relativeGroup(x, 3, 0, 1);
        CHECK.due("suppress(0)", x.suppress(0), -2);
        CHECK.due("suppress(2)", x.suppress(2), -2);
        CHECK.due("suppress(-1)", x.suppress(-1), -2);
        CHECK.due("suppress(1)", x.suppress(1), 1);
        CHECK.due("suppress(1) again", x.suppress(1), 0);
        x.initiate();
        CHECK.due("it lasts behind initiate()", x.suppress(1), 0);
        CHECK.due("suppressed", x.generate(1, 5), 0);
        CHECK.due("once", x.generate(1, 5), 1);
        CHECK.due("suppress(1) anew", x.suppress(1), 1);
        CHECK.due("a summary leaves it", x.generate(0, 5), 0);
        CHECK.due("suppressed anew", x.generate(1, 5), 0);
    }

    /** One group of each kind, one line each, numbered kind + 1. */
    private static ReportWriter oneOfEachKind() {
        ReportWriter x = new ReportWriter(20, 3, 15);
        for (int kind = 0; kind <= 6; kind++) {
            Check.relativeGroup(x, kind, 0, 1);
        }
        return x;
    }

    private static void everyKind() {
        int[] pagesWithout = {2, 3, 3, 3, 3, 3, 2};
        for (int kind = 0; kind <= 6; kind++) {
            ReportWriter x = oneOfEachKind();
            x.suppress(kind + 1);
            x.initiate();
            x.generate(4, 1);
            CHECK.due("lines without one of kind " + kind, x.terminate(), 6);
            CHECK.due("pages without one of kind " + kind, x.counter(0), pagesWithout[kind]);
            for (int i = 0; i < 6; i++) {
                CHECK.due("group of line " + i, x.at(i, 2), i < kind ? i + 1 : i + 2);
            }
            x.initiate();
            x.generate(4, 1);
            CHECK.due("the next time it is printed, kind " + kind, x.terminate(), 7);
            CHECK.due("pages", x.counter(0), 3);
        }
    }

    private static void withoutLines() {
        ReportWriter x = new ReportWriter(20, 3, 15);
        x.group(3, 0);
        x.suppress(1);
        x.initiate();
        x.generate(1, 1);
        CHECK.due("used up without lines", x.suppress(1), 1);
    }

    private static void noPageForSuppressed() {
        ReportWriter x = new ReportWriter(20, 3, 4);
        Check.relativeGroup(x, 3, 0, 1);
        Check.relativeGroup(x, 3, 0, 1, 1);
        x.initiate();
        x.generate(1, 1);
        x.suppress(2);
        x.generate(2, 1);
        CHECK.due("counter(0)", x.counter(0), 1);
        x.generate(1, 1);
        CHECK.row(x, 1, 1, 4, 1, 0, 1);
    }

    private static void rolledAllTheSame() {
        ReportWriter x = new ReportWriter(20, 3, 15);
        x.control(1);
        int foot1 = Check.relativeGroup(x, 4, 1, 1);
        int foot0 = Check.relativeGroup(x, 4, 0, 1);
        x.sum(foot1, 0, 1);
        x.sum(foot0, -1, 0);
        x.initiate();
        x.generate(0, 3);
        x.suppress(foot1);
        x.set(1, 2);
        CHECK.due("the foot is suppressed", x.generate(0, 4), 0);
        CHECK.due("its sum is rolled", x.total(2), 3);
        CHECK.due("its sum is reset", x.total(1), 4);
    }
}
