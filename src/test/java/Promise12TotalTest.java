public final class Promise12TotalTest {
    private static final Check CHECK = new Check("promise 12, total");

    public static void main(String[] args) {
        ReportWriter x = new ReportWriter(20, 3, 15);
        int detail = x.group(3, 0);
        int other = x.group(3, 0);
        int foot = x.group(4, 0);
        x.sum(foot, 0, 0);
        x.sum(foot, detail, 0);
        x.sum(foot, other, 0);
        CHECK.due("total(0)", x.total(0), 0);
        CHECK.due("total(4)", x.total(4), 0);
        CHECK.due("total(-1)", x.total(-1), 0);
        CHECK.due("total(MIN)", x.total(Integer.MIN_VALUE), 0);
        CHECK.due("total(1) ahead of initiate()", x.total(1), 0);
        x.initiate();
        x.generate(detail, 1L << 40);
        x.generate(other, -3);
        x.generate(0, 1);
        CHECK.due("total(1), every v", x.total(1), (1L << 40) - 2);
        CHECK.due("total(2), a detail's", x.total(2), 1L << 40);
        CHECK.due("total(3), another one's", x.total(3), -3);
        CHECK.due("total(0)", x.total(0), 0);
        CHECK.due("total(4)", x.total(4), 0);
        x.generate(detail, Long.MAX_VALUE);
        CHECK.due("total(2) goes round", x.total(2), (1L << 40) + Long.MAX_VALUE);
        x.terminate();
        CHECK.due("total(1) behind the end", x.total(1), 0);
        CHECK.end();
    }
}
