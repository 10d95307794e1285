public final class Promise03LineTest {
    private static final Check CHECK = new Check("promise 3, line");

    public static void main(String[] args) {
        wrongNumbers();
        headsAheadOfBody();
        pageFootBehindBody();
        reportFootOnPage();
        groupsInBody();
        tenLines();
        orderOfRefusals();
        CHECK.end();
    }

    private static ReportWriter with(int kind) {
        ReportWriter x = new ReportWriter(60, 10, 40);
        x.group(kind, 0);
        return x;
    }

    private static void wrongNumbers() {
        ReportWriter x = with(3);
        CHECK.due("line(0, ..)", x.line(0, 1, true), -2);
        CHECK.due("line(2, ..)", x.line(2, 1, true), -2);
        CHECK.due("line(-1, ..)", x.line(-1, 1, true), -2);
        CHECK.due("relative 0", x.line(1, 0, true), -4);
        CHECK.due("relative 21", x.line(1, 21, true), -4);
        CHECK.due("relative -1", x.line(1, -1, true), -4);
        CHECK.due("relative MAX", x.line(1, Integer.MAX_VALUE, true), -4);
        CHECK.due("absolute 0", x.line(1, 0, false), -4);
        CHECK.due("absolute 61", x.line(1, 61, false), -4);
        CHECK.due("absolute MIN", x.line(1, Integer.MIN_VALUE, false), -4);
        CHECK.due("absolute 60", x.line(1, 60, false), 0);
        CHECK.due("relative 20", x.line(1, 20, true), 1);
        CHECK.due("absolute, the second", x.line(1, 30, false), -4);
        CHECK.due("relative 1", x.line(1, 1, true), 2);
        CHECK.due("absolute, not the first", x.line(1, 20, false), -4);
    }

    private static void headsAheadOfBody() {
        for (int kind = 0; kind <= 1; kind++) {
            ReportWriter x = with(kind);
            CHECK.due("head absolute 10", x.line(1, 10, false), 0);
            CHECK.due("head relative 10", x.line(1, 10, true), 0);
            CHECK.due("head relative 4", x.line(1, 4, true), 1);
            CHECK.due("head relative 6 more", x.line(1, 6, true), 0);
            CHECK.due("head relative 5 more", x.line(1, 5, true), 2);
            CHECK.due("head is full", x.line(1, 1, true), 0);
            CHECK.due("head absolute 9", with(kind).line(1, 9, false), 1);
            CHECK.due("head absolute 1", with(kind).line(1, 1, false), 1);
            CHECK.due("head relative 9", with(kind).line(1, 9, true), 1);
        }
    }

    private static void pageFootBehindBody() {
        ReportWriter x = with(5);
        CHECK.due("page foot absolute 40", x.line(1, 40, false), 0);
        CHECK.due("page foot absolute 41", x.line(1, 41, false), 1);
        CHECK.due("page foot + 19", x.line(1, 19, true), 2);
        CHECK.due("page foot is full", x.line(1, 1, true), 0);
        ReportWriter y = with(5);
        CHECK.due("page foot relative 20", y.line(1, 20, true), 1);
        CHECK.due("page foot relative 20 is full", y.line(1, 1, true), 0);
        ReportWriter z = new ReportWriter(60, 10, 50);
        z.group(5, 0);
        CHECK.due("page foot relative 11 of 10", z.line(1, 11, true), 0);
        CHECK.due("page foot relative 10 of 10", z.line(1, 10, true), 1);
    }

    private static void reportFootOnPage() {
        ReportWriter x = with(6);
        CHECK.due("report foot relative 20", x.line(1, 20, true), 1);
        CHECK.due("report foot at 40", x.line(1, 20, true), 2);
        CHECK.due("report foot at 60", x.line(1, 20, true), 3);
        CHECK.due("report foot off the page", x.line(1, 1, true), 0);
        CHECK.due("report foot absolute 1", with(6).line(1, 1, false), 1);
        CHECK.due("report foot absolute 60", with(6).line(1, 60, false), 1);
    }

    private static void groupsInBody() {
        for (int kind = 2; kind <= 4; kind++) {
            ReportWriter x = with(kind);
            CHECK.due("body absolute 9", x.line(1, 9, false), 0);
            CHECK.due("body absolute 41", x.line(1, 41, false), 0);
            CHECK.due("body absolute 30", x.line(1, 30, false), 1);
            CHECK.due("body + 11", x.line(1, 11, true), 0);
            CHECK.due("body + 10", x.line(1, 10, true), 2);
            ReportWriter y = with(kind);
            CHECK.due("relative 20 stands at first on a new page", y.line(1, 20, true), 1);
            CHECK.due("at 30", y.line(1, 20, true), 2);
            CHECK.due("at 41", y.line(1, 11, true), 0);
            CHECK.due("at 40", y.line(1, 10, true), 3);
        }
        ReportWriter one = new ReportWriter(10, 2, 2);
        one.group(3, 0);
        CHECK.due("a body of one line, relative 20", one.line(1, 20, true), 1);
        CHECK.due("a body of one line, a second one", one.line(1, 1, true), 0);
    }

    private static void tenLines() {
        ReportWriter x = with(3);
        for (int n = 1; n <= 10; n++) {
            CHECK.due("line(1, 1, true)", x.line(1, 1, true), n);
        }
        CHECK.due("the 11th", x.line(1, 1, true), -1);
        CHECK.due("-4 ahead of NONE", x.line(1, 20, false), -4);
        x.initiate();
        CHECK.due("-5 ahead of NONE", x.line(1, 1, true), -5);
        CHECK.due("generate prints ten", x.generate(1, 1), 10);
    }

    private static void orderOfRefusals() {
        ReportWriter x = new ReportWriter(20, 2, 11);
        x.group(3, 0);
        for (int n = 1; n <= 10; n++) {
            x.line(1, 1, true);
        }
        CHECK.due("NONE ahead of 0", x.line(1, 20, true), -1);
        x.initiate();
        CHECK.due("-2 ahead of -4", x.line(5, 99, true), -2);
        CHECK.due("-2 ahead of -5", x.line(5, 1, true), -2);
        CHECK.due("-4 ahead of -5", x.line(1, 0, true), -4);
        ReportWriter y = with(3);
        y.initiate();
        CHECK.due("-5 ahead of 0", y.line(1, 9, false), -5);
        y.terminate();
        CHECK.due("behind terminate()", y.line(1, 10, false), 1);
    }
}
