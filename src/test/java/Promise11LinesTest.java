public final class Promise11LinesTest {
    private static final Check CHECK = new Check("promise 11, lines");

    public static void main(String[] args) {
        none();
        everyGroupsLines();
        notTheSuppressed();
        CHECK.end();
    }

    /** A body of three lines; groups: 1 page head, 2 detail of two lines, 3 page foot. */
    private static ReportWriter made() {
        ReportWriter x = new ReportWriter(20, 3, 5);
        Check.relativeGroup(x, 1, 0, 1);
        Check.relativeGroup(x, 3, 0, 1, 1);
        Check.relativeGroup(x, 5, 0, 1);
        return x;
    }

    private static void none() {
        CHECK.holds("How many lines were printed.", "none yet");
        ReportWriter x = made();
        CHECK.due("of a new one", x.lines(), 0);
        x.initiate();
        CHECK.due("behind initiate()", x.lines(), 0);
        x.terminate();
        CHECK.due("behind terminate(), nothing generated", x.lines(), 0);
        x.initiate();
        x.generate(2, 1);
        CHECK.due("behind generate()", x.lines(), 3);
        x.terminate();
        CHECK.due("behind terminate()", x.lines(), 4);
        x.initiate();
        CHECK.due("initiated anew", x.lines(), 0);
    }

    private static void everyGroupsLines() {
        CHECK.holds("How many lines were printed.");
        ReportWriter x = made();
        x.initiate();
        x.generate(2, 1);
        CHECK.due("a page head and a detail", x.lines(), 3);
        x.generate(0, 1);
        CHECK.due("a summary", x.lines(), 3);
        x.generate(2, 1);
        CHECK.due("a page foot, a page head, a detail", x.lines(), 7);
        x.generate(3, 1);
        CHECK.due("a refused one", x.lines(), 7);
        x.terminate();
        CHECK.due("a page foot", x.lines(), 8);
    }

    private static void notTheSuppressed() {
        CHECK.holds("How many lines were printed.", "suppressed ones are not");
        ReportWriter x = made();
        x.initiate();
        x.generate(2, 1);
        x.suppress(2);
        x.generate(2, 1);
        CHECK.due("a suppressed detail", x.lines(), 3);
        x.suppress(1);
        x.suppress(3);
        x.generate(2, 1);
        CHECK.due("a detail alone", x.lines(), 5);
    }
}
