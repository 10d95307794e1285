public final class Promise13CounterTest {
    private static final Check CHECK = new Check("promise 13, counter");

    private static void counters(ReportWriter x, String when, int... want) {
        for (int what = 0; what < want.length; what++) {
            CHECK.due("counter(" + what + ") " + when, x.counter(what), want[what]);
        }
    }

    public static void main(String[] args) {
        ReportWriter x = new ReportWriter(20, 3, 5);
        x.control(1);
        Check.relativeGroup(x, 0, 0, 1);
        Check.relativeGroup(x, 1, 0, 2);
        int detail = Check.relativeGroup(x, 3, 0, 1);
        Check.relativeGroup(x, 5, 0, 3);
        Check.relativeGroup(x, 6, 0, 9);
        CHECK.due("counter(-1)", x.counter(-1), -1);
        CHECK.due("counter(7)", x.counter(7), -1);
        CHECK.due("counter(MIN)", x.counter(Integer.MIN_VALUE), -1);
        CHECK.due("counter(MAX)", x.counter(Integer.MAX_VALUE), -1);
        counters(x, "new", 0, 0, 0, 5, 0, 0, 1);
        x.initiate();
        counters(x, "initiated", 0, 0, 1, 5, 0, 0, 1);
        x.generate(0, 1);
        counters(x, "with a page head alone", 2, 2, 1, 5, 1, 0, 1);
        x.generate(detail, 1);
        counters(x, "with a detail", 2, 3, 1, 5, 2, 0, 1);
        x.set(1, 2);
        x.generate(detail, 1);
        x.generate(detail, 1);
        counters(x, "with a full page", 2, 5, 1, 5, 4, 1, 1);
        x.generate(detail, 1);
        counters(x, "on the next page", 3, 3, 1, 5, 5, 1, 1);
        x.terminate();
        counters(x, "behind the end", 4, 9, 0, 5, 5, 1, 1);
        x.initiate();
        counters(x, "anew", 0, 0, 1, 5, 0, 0, 1);
        pageWithoutLines();
        reportHeadAlone();
        CHECK.end();
    }

    private static void pageWithoutLines() {
        ReportWriter x = new ReportWriter(20, 3, 5);
        Check.relativeGroup(x, 5, 0, 3);
        x.initiate();
        x.generate(0, 1);
        counters(x, "on a page without lines", 1, 0, 1, 1, 1, 0, 0);
        x.terminate();
        counters(x, "with a page foot alone", 1, 8, 0, 1, 1, 0, 0);
    }

    private static void reportHeadAlone() {
        ReportWriter x = new ReportWriter(20, 3, 5);
        Check.relativeGroup(x, 0, 0, 2);
        x.initiate();
        CHECK.due("the report head", x.generate(0, 1), 1);
        counters(x, "on the page behind it", 2, 0, 1, 1, 1, 0, 0);
    }
}
