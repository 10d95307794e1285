public final class Promise11LinesTest {
    private static final Check CHECK = new Check("promise 11, lines");

    public static void main(String[] args) {
        ReportWriter x = new ReportWriter(20, 3, 5);
        int pageHead = Check.relativeGroup(x, 1, 0, 1);
        int detail = Check.relativeGroup(x, 3, 0, 1, 1);
        int pageFoot = Check.relativeGroup(x, 5, 0, 1);
        CHECK.due("lines() of a new one", x.lines(), 0);
        x.initiate();
        CHECK.due("lines() behind initiate()", x.lines(), 0);
        x.generate(detail, 1);
        CHECK.due("a page head and a detail", x.lines(), 3);
        x.generate(0, 1);
        CHECK.due("a summary", x.lines(), 3);
        x.generate(detail, 1);
        CHECK.due("a page foot, a page head, a detail", x.lines(), 7);
        x.suppress(detail);
        x.generate(detail, 1);
        CHECK.due("a suppressed detail", x.lines(), 7);
        x.suppress(pageHead);
        x.suppress(pageFoot);
        x.generate(detail, 1);
        CHECK.due("a detail alone", x.lines(), 9);
        x.terminate();
        CHECK.due("behind terminate()", x.lines(), 10);
        x.initiate();
        CHECK.due("initiated anew", x.lines(), 0);
        CHECK.end();
    }
}
