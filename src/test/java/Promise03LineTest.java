public final class Promise03LineTest {
    private static final Check CHECK = new Check("promise 3, line");

    public static void main(String[] args) {
        howMany();
        noSuchGroup();
        relativeNumbers();
        absoluteNumbers();
        absoluteIsFirst();
        headsAheadOfBody();
        pageFootBehindBody();
        groupsInBody();
        narrowRegions();
        reportFootOnPage();
        refusedAddsNothing();
        behindInitiate();
        tenLines();
        CHECK.end();
    }

    private static ReportWriter with(int kind) {
        ReportWriter x = new ReportWriter(60, 10, 40);
        x.group(kind, 0);
        return x;
    }

    private static int relative(int kind, int n) {
        return with(kind).line(1, n, true);
    }

    private static int absolute(int kind, int n) {
        return with(kind).line(1, n, false);
    }

    private static void howMany() {
        CHECK.holds("One more line of a group: how many it has");
        ReportWriter x = with(3);
        x.group(3, 0);
        CHECK.due("the first one", x.line(1, 1, true), 1);
        CHECK.due("the second one", x.line(1, 1, true), 2);
        CHECK.due("the first one of another group", x.line(2, 1, true), 1);
        CHECK.due("the third one", x.line(1, 1, true), 3);
    }

    private static void noSuchGroup() {
        CHECK.holds("-2 no such group");
        ReportWriter x = new ReportWriter(60, 10, 40);
        CHECK.due("line(1, ..) without groups", x.line(1, 1, true), -2);
        x.group(3, 0);
        x.group(3, 0);
        CHECK.due("line(0, ..)", x.line(0, 1, true), -2);
        CHECK.due("line(1, ..)", x.line(1, 1, true), 1);
        CHECK.due("line(2, ..)", x.line(2, 1, true), 1);
        CHECK.due("line(3, ..)", x.line(3, 1, true), -2);
        CHECK.due("line(-1, ..)", x.line(-1, 1, true), -2);
        CHECK.due("line(MIN, ..)", x.line(Integer.MIN_VALUE, 1, true), -2);
        CHECK.due("line(MAX, ..)", x.line(Integer.MAX_VALUE, 1, true), -2);
    }

    private static void relativeNumbers() {
        CHECK.holds("-4 n is not so", "RELATIVE, 1 .. 20");
        int[] wrong = {0, 21, -1, 22, Integer.MIN_VALUE, Integer.MAX_VALUE};
        for (int n : wrong) {
            ReportWriter x = with(6);
            CHECK.due("the first one, relative " + n, x.line(1, n, true), -4);
            x.line(1, 1, true);
            CHECK.due("the second one, relative " + n, x.line(1, n, true), -4);
        }
        ReportWriter x = with(6);
        CHECK.due("the first one, relative 20", x.line(1, 20, true), 1);
        CHECK.due("the second one, relative 20", x.line(1, 20, true), 2);
        ReportWriter y = with(6);
        CHECK.due("the first one, relative 1", y.line(1, 1, true), 1);
        CHECK.due("the second one, relative 1", y.line(1, 1, true), 2);
    }

    private static void absoluteNumbers() {
        CHECK.holds("-4 n is not so", "told by a number on the page");
        for (int kind = 0; kind <= 6; kind++) {
            CHECK.due("kind " + kind + ", absolute MIN", absolute(kind, Integer.MIN_VALUE), -4);
            CHECK.due("kind " + kind + ", absolute -1", absolute(kind, -1), -4);
            CHECK.due("kind " + kind + ", absolute 0", absolute(kind, 0), -4);
            CHECK.due("kind " + kind + ", absolute 1", absolute(kind, 1), kind < 2 || kind == 6 ? 1 : 0);
            CHECK.due("kind " + kind + ", absolute 60", absolute(kind, 60), kind < 5 ? 0 : 1);
            CHECK.due("kind " + kind + ", absolute 61", absolute(kind, 61), -4);
            CHECK.due("kind " + kind + ", absolute MAX", absolute(kind, Integer.MAX_VALUE), -4);
        }
    }

    private static void absoluteIsFirst() {
        CHECK.holds("or an absolute one isn't the first");
        ReportWriter x = with(3);
        CHECK.due("the first one, absolute", x.line(1, 20, false), 1);
        CHECK.due("the second one, absolute", x.line(1, 21, false), -4);
        CHECK.due("the second one, relative", x.line(1, 1, true), 2);
        CHECK.due("the third one, absolute", x.line(1, 22, false), -4);
        ReportWriter y = with(3);
        y.line(1, 1, true);
        CHECK.due("absolute behind a relative one", y.line(1, 20, false), -4);
        ReportWriter z = with(3);
        z.line(1, 9, false);
        CHECK.due("absolute behind a refused one is the first", z.line(1, 10, false), 1);
    }

    private static void headsAheadOfBody() {
        CHECK.holds("0 when the group would not fit: heads (0, 1) ahead of the body's first line");
        for (int kind = 0; kind <= 1; kind++) {
            CHECK.due("absolute 9", absolute(kind, 9), 1);
            CHECK.due("absolute 10", absolute(kind, 10), 0);
            CHECK.due("relative 9", relative(kind, 9), 1);
            CHECK.due("relative 10", relative(kind, 10), 0);
            ReportWriter x = with(kind);
            x.line(1, 4, true);
            CHECK.due("the second one at 10", x.line(1, 6, true), 0);
            CHECK.due("the second one at 9", x.line(1, 5, true), 2);
            CHECK.due("the third one at 10", x.line(1, 1, true), 0);
            ReportWriter y = with(kind);
            y.line(1, 4, false);
            CHECK.due("behind an absolute one, at 10", y.line(1, 6, true), 0);
            CHECK.due("behind an absolute one, at 9", y.line(1, 5, true), 2);
        }
    }

    private static void pageFootBehindBody() {
        CHECK.holds("a page foot behind its last one");
        CHECK.due("absolute 40", absolute(5, 40), 0);
        CHECK.due("absolute 41", absolute(5, 41), 1);
        CHECK.due("absolute 60", absolute(5, 60), 1);
        ReportWriter x = with(5);
        x.line(1, 1, true);
        CHECK.due("the second one at 61", x.line(1, 20, true), 0);
        CHECK.due("the second one at 60", x.line(1, 19, true), 2);
        CHECK.due("the third one at 61", x.line(1, 1, true), 0);
        ReportWriter y = with(5);
        y.line(1, 41, false);
        CHECK.due("behind an absolute one, at 61", y.line(1, 20, true), 0);
        CHECK.due("behind an absolute one, at 60", y.line(1, 19, true), 2);
        ReportWriter z = new ReportWriter(60, 10, 50);
        z.group(5, 0);
        CHECK.due("relative 11 of 10", z.line(1, 11, true), 0);
        CHECK.due("relative 10 of 10", z.line(1, 10, true), 1);
    }

    private static void groupsInBody() {
        CHECK.holds("groups of the body in it");
        for (int kind = 2; kind <= 4; kind++) {
            CHECK.due("absolute 9", absolute(kind, 9), 0);
            CHECK.due("absolute 10", absolute(kind, 10), 1);
            CHECK.due("absolute 40", absolute(kind, 40), 1);
            CHECK.due("absolute 41", absolute(kind, 41), 0);
            ReportWriter x = with(kind);
            x.line(1, 30, false);
            CHECK.due("behind an absolute one, at 41", x.line(1, 11, true), 0);
            CHECK.due("behind an absolute one, at 40", x.line(1, 10, true), 2);
            CHECK.due("behind an absolute one, full", x.line(1, 1, true), 0);
            ReportWriter y = with(kind);
            CHECK.due("relative 20 stands at 10 on a new page", y.line(1, 20, true), 1);
            CHECK.due("the second one at 30", y.line(1, 20, true), 2);
            CHECK.due("the third one at 41", y.line(1, 11, true), 0);
            CHECK.due("the third one at 40", y.line(1, 10, true), 3);
            CHECK.due("full", y.line(1, 1, true), 0);
        }
    }

    private static void narrowRegions() {
        CHECK.holds("0 when the group would not fit", "regions of one line");
        for (int kind = 0; kind <= 5; kind++) {
            ReportWriter x = new ReportWriter(10, 2, kind == 5 ? 9 : 2);
            x.group(kind, 0);
            CHECK.due("kind " + kind + ", one line", x.line(1, 1, true), 1);
            CHECK.due("kind " + kind + ", a second one", x.line(1, 1, true), 0);
        }
        ReportWriter one = new ReportWriter(10, 2, 2);
        one.group(3, 0);
        CHECK.due("a body of one line, relative 20", one.line(1, 20, true), 1);
    }

    private static void reportFootOnPage() {
        CHECK.holds("a report foot on the page");
        CHECK.due("absolute 1", absolute(6, 1), 1);
        CHECK.due("absolute 60", absolute(6, 60), 1);
        ReportWriter x = with(6);
        CHECK.due("at 20", x.line(1, 20, true), 1);
        CHECK.due("at 40", x.line(1, 20, true), 2);
        CHECK.due("at 60", x.line(1, 20, true), 3);
        CHECK.due("at 61", x.line(1, 1, true), 0);
        ReportWriter y = with(6);
        y.line(1, 41, false);
        CHECK.due("behind an absolute one, at 61", y.line(1, 20, true), 0);
        CHECK.due("behind an absolute one, at 60", y.line(1, 19, true), 2);
        ReportWriter z = new ReportWriter(10, 3, 5);
        z.group(6, 0);
        CHECK.due("a page of 10, relative 11", z.line(1, 11, true), 0);
        CHECK.due("a page of 10, relative 10", z.line(1, 10, true), 1);
    }

    private static void refusedAddsNothing() {
        CHECK.holds("0 when the group would not fit", "and it is as it was");
        ReportWriter x = new ReportWriter(20, 3, 6);
        x.group(3, 0);
        x.line(1, 2, false);
        x.line(1, 21, true);
        CHECK.due("the first one behind refused ones", x.line(1, 4, false), 1);
        x.line(1, 3, true);
        x.line(1, 5, false);
        CHECK.due("the second one behind refused ones", x.line(1, 2, true), 2);
        x.initiate();
        x.line(1, 1, true);
        CHECK.due("it prints two", x.generate(1, 1), 2);
        CHECK.column(x, 1, 4, 6);
    }

    private static void behindInitiate() {
        CHECK.holds("-5", "behind initiate()");
        ReportWriter x = with(3);
        CHECK.due("ahead of initiate()", x.line(1, 1, true), 1);
        x.initiate();
        CHECK.due("behind initiate()", x.line(1, 1, true), -5);
        x.generate(1, 1);
        CHECK.due("behind generate()", x.line(1, 1, true), -5);
        x.terminate();
        CHECK.due("behind terminate()", x.line(1, 1, true), 2);
    }

    private static void tenLines() {
        CHECK.holds("NONE when it has 10");
        for (int kind = 0; kind <= 6; kind++) {
            ReportWriter x = new ReportWriter(60, 12, 40);
            x.group(kind, 0);
            for (int n = 1; n <= 10; n++) {
                CHECK.due("kind " + kind + ", line(1, 1, true)", x.line(1, 1, true), n);
            }
            CHECK.due("kind " + kind + ", the 11th", x.line(1, 1, true), -1);
            x.group(3, 0);
            CHECK.due("another group has room", x.line(2, 1, true), 1);
            x.initiate();
            x.generate(2, 1);
            CHECK.due("ten are printed, and the other group's one", x.terminate(), kind == 3 ? 1 : 11);
        }
    }
}
