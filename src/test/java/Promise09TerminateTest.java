public final class Promise09TerminateTest {
    private static final Check CHECK = new Check("promise 9, terminate");

    public static void main(String[] args) {
        nothingGenerated();
        foots();
        withoutReportFoot();
        CHECK.end();
    }

    private static ReportWriter withFoots() {
        ReportWriter x = new ReportWriter(20, 3, 15);
        x.control(5);
        Check.relativeGroup(x, 4, 0, 1);
        Check.relativeGroup(x, 4, 1, 1);
        Check.relativeGroup(x, 5, 0, 2, 1);
        Check.relativeGroup(x, 6, 0, 4, 1);
        Check.relativeGroup(x, 3, 0, 1);
        return x;
    }

    private static void nothingGenerated() {
        ReportWriter x = withFoots();
        CHECK.due("ahead of initiate()", x.terminate(), -5);
        x.initiate();
        CHECK.due("nothing generated", x.terminate(), 0);
        CHECK.due("counter(0)", x.counter(0), 0);
        CHECK.due("counter(2)", x.counter(2), 0);
        CHECK.due("again", x.terminate(), -5);
    }

    private static void foots() {
        ReportWriter x = withFoots();
        x.initiate();
        x.generate(5, 9);
        x.set(1, 6);
        CHECK.due("terminate()", x.terminate(), 7);
        CHECK.row(x, 0, 1, 3, 5, 0, 9);
        CHECK.row(x, 1, 1, 4, 2, 0, 5); // the value at the latest generating
        CHECK.row(x, 2, 1, 5, 1, 0, 0);
        CHECK.row(x, 3, 1, 17, 3, 0, 0);
        CHECK.row(x, 4, 1, 18, 3, 1, 0);
        CHECK.row(x, 5, 2, 4, 4, 0, 0);
        CHECK.row(x, 6, 2, 5, 4, 1, 0);
        CHECK.due("counter(0)", x.counter(0), 2);
        CHECK.due("the end is no break", x.counter(5), 0);
        CHECK.due("again", x.terminate(), -5);
        CHECK.due("initiate() anew", x.initiate(), 1);
        CHECK.due("terminate() anew", x.terminate(), 0);
    }

    private static void withoutReportFoot() {
        ReportWriter x = new ReportWriter(20, 3, 15);
        Check.relativeGroup(x, 3, 0, 1);
        x.group(6, 0);
        x.group(0, 0);
        x.initiate();
        x.generate(1, 1);
        CHECK.due("terminate()", x.terminate(), 1);
        CHECK.due("heads and foots without lines take no page", x.counter(0), 1);
    }
}
