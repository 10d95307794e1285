public final class Promise08GenerateTest {
    private static final Check CHECK = new Check("promise 8, generate");

    public static void main(String[] args) {
        howManyLines();
        mostLines();
        summary();
        aheadOfInitiate();
        noSuchDetail();
        refusedChangesNothing();
        twoHundred();
        thenNothing();
        CHECK.end();
    }

    private static ReportWriter made() {
        return new ReportWriter(20, 3, 15);
    }

    private static void howManyLines() {
        CHECK.holds("how many lines were printed");
        ReportWriter x = Check.withControls(new ReportWriter(20, 3, 5), 1);
        Check.relativeGroup(x, 3, 0, 1, 1);
        Check.relativeGroup(x, 0, 0, 1);
        Check.relativeGroup(x, 1, 0, 1, 1);
        Check.relativeGroup(x, 5, 0, 1);
        Check.relativeGroup(x, 2, 1, 1);
        x.initiate();
        CHECK.due("report head, page head, control head, detail", x.generate(1, 1), 6);
        CHECK.due("page foot, page head, detail", x.generate(1, 1), 5);
        x.set(1, 2);
        CHECK.due("control head, page foot, page head, detail", x.generate(1, 1), 6);
        CHECK.due("nothing", x.generate(0, 1), 0);
        CHECK.due("lines()", x.lines(), 17);
    }

    private static void mostLines() {
        CHECK.holds("how many lines were printed", "each group of a break turns the page");
        ReportWriter x = Check.withControls(new ReportWriter(40, 12, 21), 5);
        int[] ten = {1, 1, 1, 1, 1, 1, 1, 1, 1, 1};
        Check.relativeGroup(x, 3, 0, ten);
        Check.relativeGroup(x, 1, 0, ten);
        Check.relativeGroup(x, 5, 0, ten);
        for (int level = 1; level <= 5; level++) {
            Check.relativeGroup(x, 2, level, ten);
            Check.relativeGroup(x, 4, level, ten);
        }
        x.initiate();
        CHECK.due("a page head, five heads and a detail, five turns", x.generate(1, 1), 10 + 60 + 100);
        x.set(1, 2);
        CHECK.due("five foots, five heads and a detail, eleven turns", x.generate(1, 1), 110 + 220);
    }

    private static void summary() {
        CHECK.holds("A detail's number, or 0 for a summary");
        ReportWriter x = made();
        Check.relativeGroup(x, 3, 0, 1);
        Check.relativeGroup(x, 3, 0, 1, 1);
        x.initiate();
        CHECK.due("generate(1, ..)", x.generate(1, 5), 1);
        CHECK.due("generate(0, ..)", x.generate(0, 6), 0);
        CHECK.due("generate(2, ..)", x.generate(2, 7), 2);
        CHECK.due("three generatings", x.counter(4), 3);
        CHECK.column(x, 2, 1, 2, 2);
    }

    private static void aheadOfInitiate() {
        CHECK.holds("-5 ahead of initiate()");
        ReportWriter x = made();
        x.group(3, 0);
        CHECK.due("a detail ahead of initiate()", x.generate(1, 1), -5);
        CHECK.due("a summary ahead of initiate()", x.generate(0, 1), -5);
        x.initiate();
        CHECK.due("a detail behind initiate()", x.generate(1, 1), 0);
        CHECK.due("a summary behind initiate()", x.generate(0, 1), 0);
        x.terminate();
        CHECK.due("a detail behind terminate()", x.generate(1, 1), -5);
        CHECK.due("a summary behind terminate()", x.generate(0, 1), -5);
        CHECK.due("counter(4)", x.counter(4), 2);
    }

    private static void noSuchDetail() {
        CHECK.holds("-2 no such detail");
        ReportWriter x = made();
        for (int kind = 0; kind <= 6; kind++) {
            x.group(kind, 0);
        }
        x.group(3, 0);
        x.initiate();
        for (int kind = 0; kind <= 6; kind++) {
            CHECK.due("kind " + kind, x.generate(kind + 1, 1), kind == 3 ? 0 : -2);
        }
        CHECK.due("generate(-1, ..)", x.generate(-1, 1), -2);
        CHECK.due("generate(8, ..), the last group", x.generate(8, 1), 0);
        CHECK.due("generate(9, ..)", x.generate(9, 1), -2);
        CHECK.due("generate(MIN, ..)", x.generate(Integer.MIN_VALUE, 1), -2);
        CHECK.due("generate(MAX, ..)", x.generate(Integer.MAX_VALUE, 1), -2);
    }

    private static void refusedChangesNothing() {
        CHECK.holds("-2 no such detail", "and it is as it was");
        ReportWriter x = Check.withControls(made(), 1);
        Check.relativeGroup(x, 4, 1, 1);
        x.sum(1, 0, 1);
        x.initiate();
        CHECK.due("at first", x.generate(2, 5), -2);
        CHECK.counters(x, "behind a refused one", 0, 0, 1, 1, 0, 0, 1);
        x.generate(0, 6);
        x.set(1, 2);
        CHECK.due("at a break", x.generate(1, 7), -2);
        CHECK.counters(x, "behind a refused one", 1, 0, 1, 1, 1, 0, 1);
        CHECK.totals(x, 6);
        CHECK.due("the break is there for the next one", x.generate(0, 8), 1);
        CHECK.totals(x, 8);
    }

    private static void twoHundred() {
        CHECK.holds("NONE when there were 200");
        ReportWriter x = made();
        Check.relativeGroup(x, 3, 0, 1);
        x.initiate();
        for (int i = 1; i <= 200; i++) {
            boolean isDetail = i % 2 == 0;
            CHECK.due("generating " + i, x.generate(isDetail ? 1 : 0, 1), isDetail ? 1 : 0);
        }
        CHECK.due("the 201st, a detail", x.generate(1, 1), -1);
        CHECK.due("the 201st, a summary", x.generate(0, 1), -1);
        CHECK.due("counter(4)", x.counter(4), 200);
        x.terminate();
        x.initiate();
        for (int i = 1; i <= 200; i++) {
            CHECK.due("anew, generating " + i, x.generate(1, 1), 1);
        }
        CHECK.due("anew, the 201st", x.generate(1, 1), -1);
    }

    private static void thenNothing() {
        CHECK.holds("(then nothing)");
        ReportWriter x = Check.withControls(made(), 1);
        Check.relativeGroup(x, 3, 0, 1);
        Check.relativeGroup(x, 4, 1, 1);
        x.sum(2, 0, 1);
        x.initiate();
        for (int i = 1; i <= 200; i++) {
            x.generate(0, 1);
        }
        x.set(1, 2);
        x.suppress(1);
        CHECK.due("the 201st", x.generate(1, 1), -1);
        CHECK.counters(x, "behind the 201st", 1, 0, 1, 2, 200, 0, 1);
        CHECK.totals(x, 200);
        CHECK.due("lines()", x.lines(), 0);
        CHECK.due("the suppression is not used up", x.suppress(1), 0);
        CHECK.due("terminate()", x.terminate(), 1);
        CHECK.column(x, 4, 200);
    }
}
