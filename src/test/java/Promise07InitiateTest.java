public final class Promise07InitiateTest {
    private static final Check CHECK = new Check("promise 7, initiate");

    public static void main(String[] args) {
        begins();
        refusedWhenItHas();
        refusedChangesNothing();
        allGo();
        definitionsStay();
        CHECK.end();
    }

    /** One control; groups: 1 detail, 2 foot of level 0 with a sum of every v. */
    private static ReportWriter made() {
        ReportWriter x = Check.withControls(new ReportWriter(20, 3, 15), 1);
        Check.relativeGroup(x, 3, 0, 1);
        x.group(4, 0);
        x.sum(2, 0, 0);
        return x;
    }

    private static void begins() {
        CHECK.holds("The report begins: 1");
        CHECK.due("of a new one, without groups", new ReportWriter(20, 3, 15).initiate(), 1);
        ReportWriter x = made();
        CHECK.due("counter(2) ahead of it", x.counter(2), 0);
        CHECK.due("initiate()", x.initiate(), 1);
        CHECK.due("counter(2)", x.counter(2), 1);
        CHECK.due("nothing is printed by it", x.lines(), 0);
    }

    private static void refusedWhenItHas() {
        CHECK.holds("-5 when it has");
        ReportWriter x = made();
        x.initiate();
        CHECK.due("initiate() again", x.initiate(), -5);
        x.generate(1, 6);
        CHECK.due("initiate() in the report", x.initiate(), -5);
        x.terminate();
        CHECK.due("initiate() behind terminate()", x.initiate(), 1);
        CHECK.due("initiate() again", x.initiate(), -5);
    }

    private static void refusedChangesNothing() {
        CHECK.holds("-5 when it has", "and it is as it was");
        ReportWriter x = made();
        x.initiate();
        x.generate(1, 6);
        x.set(1, 2);
        x.generate(1, 7);
        x.initiate();
        CHECK.counters(x, "behind a refused one", 1, 4, 1, 2, 2, 1, 1);
        CHECK.due("total(1)", x.total(1), 13);
        CHECK.column(x, 4, 6, 7);
    }

    private static void allGo() {
        CHECK.holds("All lines told before, sums, counters go.");
        ReportWriter x = made();
        x.initiate();
        x.generate(1, 6);
        x.set(1, 2);
        x.generate(1, 7);
        x.terminate();
        CHECK.column(x, 4, 6, 7);
        CHECK.counters(x, "told until then", 1, 4, 0, 2, 2, 1, 1);
        x.initiate();
        CHECK.due("lines()", x.lines(), 0);
        CHECK.noCell(x, 0, 0);
        CHECK.totals(x, 0);
        CHECK.counters(x, "gone", 0, 0, 1, 2, 0, 0, 1);
        CHECK.due("the first generating anew", x.generate(1, 8), 1);
        CHECK.row(x, 0, 1, 3, 1, 0, 8);
        CHECK.totals(x, 8);
        CHECK.counters(x, "counted anew", 1, 3, 1, 2, 1, 0, 1);
    }

    private static void definitionsStay() {
        CHECK.holds("All lines told before, sums, counters go.", "groups, their lines and controls stay");
        ReportWriter x = made();
        x.set(1, 5);
        x.indicate(1);
        x.initiate();
        x.terminate();
        x.initiate();
        CHECK.due("the control's value", x.set(1, 5), 5);
        CHECK.due("the detail's line", x.generate(1, 3), 1);
        CHECK.due("the sum", x.total(1), 3);
        CHECK.due("the detail is indicated", x.indicate(1), 1);
    }
}
