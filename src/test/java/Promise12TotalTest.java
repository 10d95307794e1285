public final class Promise12TotalTest {
    private static final Check CHECK = new Check("promise 12, total");

    public static void main(String[] args) {
        totalNow();
        noneSuch();
        goesRound();
        CHECK.end();
    }

    /** Groups: 1, 2 details, 3 a foot of level 0 with the sums 1 of every v, 2 of detail 1, 3 of detail 2. */
    private static ReportWriter made() {
        ReportWriter x = new ReportWriter(20, 3, 15);
        x.group(3, 0);
        x.group(3, 0);
        x.group(4, 0);
        x.sum(3, 0, 0);
        x.sum(3, 1, 0);
        x.sum(3, 2, 0);
        return x;
    }

    private static void totalNow() {
        CHECK.holds("A sum's total now");
        ReportWriter x = made();
        CHECK.totals(x, 0, 0, 0);
        x.initiate();
        CHECK.totals(x, 0, 0, 0);
        x.generate(1, 1L << 40);
        CHECK.totals(x, 1L << 40, 1L << 40, 0);
        x.generate(2, -3);
        CHECK.totals(x, (1L << 40) - 3, 1L << 40, -3);
        x.generate(0, 1);
        CHECK.totals(x, (1L << 40) - 2, 1L << 40, -3);
        x.terminate();
        CHECK.totals(x, 0, 0, 0);
    }

    private static void noneSuch() {
        CHECK.holds("0 when there is none such");
        ReportWriter x = made();
        x.initiate();
        x.generate(1, 5);
        x.generate(2, 6);
        CHECK.due("total(MIN)", x.total(Integer.MIN_VALUE), 0);
        CHECK.due("total(-1)", x.total(-1), 0);
        CHECK.due("total(0)", x.total(0), 0);
        CHECK.due("total(1)", x.total(1), 11);
        CHECK.due("total(3)", x.total(3), 6);
        CHECK.due("total(4)", x.total(4), 0);
        CHECK.due("total(MAX)", x.total(Integer.MAX_VALUE), 0);
        CHECK.due("total(1) without sums", new ReportWriter(20, 3, 15).total(1), 0);
    }

    private static void goesRound() {
        CHECK.holds("A sum's total now", "a long goes round");
        ReportWriter x = made();
        x.initiate();
        x.generate(1, Long.MAX_VALUE);
        CHECK.totals(x, Long.MAX_VALUE, Long.MAX_VALUE, 0);
        x.generate(1, 1);
        CHECK.totals(x, Long.MIN_VALUE, Long.MIN_VALUE, 0);
        x.generate(2, -1);
        CHECK.totals(x, Long.MAX_VALUE, Long.MIN_VALUE, -1);
        x.generate(2, Long.MIN_VALUE);
        CHECK.totals(x, -1, Long.MIN_VALUE, Long.MAX_VALUE);
    }
}
