public final class Promise09TerminateTest {
    private static final Check CHECK = new Check("promise 9, terminate");

    public static void main(String[] args) {
        howManyLines();
        aheadOfInitiate();
        initiatedAnew();
        linesAreStillTold();
        CHECK.end();
    }

    /** One control of value 5; groups: 1, 2 foots of levels 0, 1; 3 page foot; 4 report foot; 5 detail. */
    private static ReportWriter withFoots() {
        ReportWriter x = new ReportWriter(20, 3, 15);
        x.control(5);
        Check.relativeGroup(x, 4, 0, 1);
        Check.relativeGroup(x, 4, 1, 1);
        Check.relativeGroup(x, 5, 0, 2, 1);
        Check.relativeGroup(x, 6, 0, 4, 1);
        Check.relativeGroup(x, 3, 0, 1);
        return x;
    }

    private static void howManyLines() {
        CHECK.holds("The report is over: how many lines it has");
        ReportWriter x = withFoots();
        x.initiate();
        x.generate(5, 9);
        CHECK.due("counter(2) ahead of it", x.counter(2), 1);
        CHECK.due("a detail, two foots, two and two lines", x.terminate(), 7);
        CHECK.due("lines()", x.lines(), 7);
        CHECK.due("counter(2)", x.counter(2), 0);
        ReportWriter y = withFoots();
        y.initiate();
        CHECK.due("nothing generated", y.terminate(), 0);
        ReportWriter z = new ReportWriter(20, 3, 15);
        z.initiate();
        z.generate(0, 1);
        CHECK.due("a summary, no groups", z.terminate(), 0);
    }

    private static void aheadOfInitiate() {
        CHECK.holds("-5 ahead of initiate()");
        ReportWriter x = withFoots();
        CHECK.due("of a new one", x.terminate(), -5);
        x.initiate();
        CHECK.due("behind initiate()", x.terminate(), 0);
        CHECK.due("again", x.terminate(), -5);
        x.initiate();
        x.generate(5, 1);
        CHECK.due("behind generate()", x.terminate(), 7);
        CHECK.due("again", x.terminate(), -5);
        CHECK.due("nothing more is printed", x.lines(), 7);
    }

    private static void initiatedAnew() {
        CHECK.holds("It may be initiated anew.");
        ReportWriter x = withFoots();
        for (int report = 1; report <= 3; report++) {
            CHECK.due("initiate(), report " + report, x.initiate(), 1);
            x.generate(5, report);
            CHECK.due("terminate(), report " + report, x.terminate(), 7);
            CHECK.column(x, 4, report, 5, 0, 0, 0, 0, 0);
            CHECK.column(x, 0, 1, 1, 1, 1, 1, 2, 2);
        }
    }

    private static void linesAreStillTold() {
        CHECK.holds("The report is over", "its lines are told until the next one begins");
        ReportWriter x = withFoots();
        x.initiate();
        x.generate(5, 9);
        x.terminate();
        CHECK.row(x, 0, 1, 3, 5, 0, 9);
        CHECK.row(x, 6, 2, 5, 4, 1, 0);
        x.initiate();
        CHECK.noCell(x, 0, 0);
    }
}
