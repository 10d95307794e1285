public final class Promise07InitiateTest {
    private static final Check CHECK = new Check("promise 7, initiate");

    public static void main(String[] args) {
        ReportWriter x = new ReportWriter(20, 3, 15);
        x.control(1);
        int detail = Check.relativeGroup(x, 3, 0, 1);
        int foot = x.group(4, 0);
        x.sum(foot, 0, 0);
        CHECK.due("initiate()", x.initiate(), 1);
        CHECK.due("initiate() again", x.initiate(), -5);
        x.generate(detail, 6);
        CHECK.due("initiate() in the report", x.initiate(), -5);
        x.set(1, 2);
        x.generate(detail, 7);
        CHECK.due("total(1)", x.total(1), 13);
        x.terminate();
        CHECK.due("lines() behind terminate()", x.lines(), 2);
        CHECK.due("initiate() anew", x.initiate(), 1);
        CHECK.due("lines() anew", x.lines(), 0);
        CHECK.noCell(x, 0, 0);
        CHECK.due("total(1) anew", x.total(1), 0);
        int[] want = {0, 0, 1, 2, 0, 0, 1};
        for (int what = 0; what < want.length; what++) {
            CHECK.due("counter(" + what + ") anew", x.counter(what), want[what]);
        }
        CHECK.due("set keeps values", x.set(1, 2), 2);
        CHECK.due("generate begins a page anew", x.generate(detail, 8), 1);
        CHECK.row(x, 0, 1, 3, detail, 0, 8);
        CHECK.end();
    }
}
