/** The document's terms of pages, controls, groups and their lines. */
public final class TermsGroupsTest {
    private static final Check CHECK = new Check("terms, pages, controls and groups");

    public static void main(String[] args) {
        linesOfAPage();
        linesOfTheBody();
        controls();
        levelZero();
        numbersOfGroups();
        kinds();
        ofALevel();
        tenLines();
        noLines();
        absoluteLine();
        relativeLine();
        CHECK.end();
    }

    private static int absolute(int kind, int n) {
        ReportWriter x = new ReportWriter(30, 5, 20);
        x.group(kind, 0);
        return x.line(1, n, false);
    }

    private static void linesOfAPage() {
        CHECK.holds("A PAGE has LINES 1 .. page");
        CHECK.due("a report foot at 0", absolute(6, 0), -4);
        CHECK.due("a report foot at 1", absolute(6, 1), 1);
        CHECK.due("a report foot at 30", absolute(6, 30), 1);
        CHECK.due("a report foot at 31", absolute(6, 31), -4);
        int[] lines = {1, 30};
        for (int n : lines) {
            ReportWriter x = new ReportWriter(30, 5, 20);
            Check.absoluteGroup(x, 6, 0, n);
            x.initiate();
            x.generate(0, 1);
            x.terminate();
            CHECK.column(x, 1, n);
        }
    }

    private static void linesOfTheBody() {
        CHECK.holds("the BODY is lines first .. foot of it");
        CHECK.due("a detail at 4", absolute(3, 4), 0);
        CHECK.due("a detail at 5", absolute(3, 5), 1);
        CHECK.due("a detail at 20", absolute(3, 20), 1);
        CHECK.due("a detail at 21", absolute(3, 21), 0);
        ReportWriter x = new ReportWriter(30, 5, 20);
        Check.relativeGroup(x, 3, 0, 1);
        x.initiate();
        for (int i = 0; i < 17; i++) {
            x.generate(1, i);
        }
        CHECK.due("the first detail's line", x.at(0, 1), 5);
        CHECK.row(x, 15, 1, 20, 1, 0, 15);
        CHECK.row(x, 16, 2, 5, 1, 0, 16);
    }

    private static void controls() {
        CHECK.holds("CONTROLS are levels 1 .. (at most 5; 1 the greatest)");
        ReportWriter x = new ReportWriter(30, 5, 20);
        for (int level = 1; level <= 5; level++) {
            CHECK.due("control " + level, x.control(1), level);
        }
        CHECK.due("a sixth one", x.control(1), -1);
        CHECK.due("the greatest one's foot", Check.relativeGroup(x, 4, 1, 1), 1);
        CHECK.due("the least one's foot", Check.relativeGroup(x, 4, 5, 1), 2);
        x.initiate();
        x.generate(0, 1);
        x.set(5, 2);
        CHECK.due("a break of 5 prints the foot of 5", x.generate(0, 1), 1);
        x.set(1, 2);
        CHECK.due("a break of 1 prints both", x.generate(0, 1), 2);
        CHECK.column(x, 2, 2, 2, 1);
    }

    private static void levelZero() {
        CHECK.holds("level 0 is FINAL, which has none");
        ReportWriter x = Check.withControls(new ReportWriter(30, 5, 20), 1);
        CHECK.due("set(0, 9)", x.set(0, 9), -4);
        CHECK.due("set(1, 9)", x.set(1, 9), 1);
        Check.relativeGroup(x, 2, 0, 1);
        Check.relativeGroup(x, 4, 0, 1);
        x.initiate();
        x.generate(0, 7);
        CHECK.due("set(0, 8)", x.set(0, 8), -4);
        CHECK.due("no break", x.generate(0, 7), 0);
        x.set(1, 10);
        CHECK.due("a break of level 1 prints nothing of level 0", x.generate(0, 7), 0);
        x.terminate();
        CHECK.column(x, 2, 1, 2);
        CHECK.column(x, 4, 0, 0);
    }

    private static void numbersOfGroups() {
        CHECK.holds("GROUPS are numbered from 1 on (at most 20)");
        ReportWriter x = new ReportWriter(30, 5, 20);
        for (int number = 1; number <= 20; number++) {
            CHECK.due("group " + number, x.group(3, 0), number);
        }
        CHECK.due("one more", x.group(3, 0), -1);
        x.line(1, 1, true);
        x.line(20, 1, true);
        x.initiate();
        CHECK.due("generate(20, 1)", x.generate(20, 1), 1);
        CHECK.due("generate(21, 1)", x.generate(21, 1), -2);
        CHECK.due("generate(1, 1)", x.generate(1, 1), 1);
        CHECK.column(x, 2, 20, 1);
    }

    /** Each kind is told by when and where it is printed. */
    private static void kinds() {
        CHECK.holds("by KIND: 0 report head, 1 page head, 2 control head, 3 detail, 4 control foot, 5 page foot, 6 report foot");
        ReportWriter x = new ReportWriter(30, 5, 20);
        for (int kind = 6; kind >= 0; kind--) {
            Check.relativeGroup(x, kind, 0, 1);
        }
        x.initiate();
        x.generate(4, 1);
        x.terminate();
        CHECK.column(x, 2, 7, 6, 5, 4, 3, 2, 1);
        CHECK.column(x, 0, 1, 2, 2, 2, 2, 2, 3);
        CHECK.column(x, 1, 1, 1, 5, 6, 7, 21, 1);
    }

    private static void ofALevel() {
        CHECK.holds("heads and foots of controls are of a level");
        for (int level = 0; level <= 5; level++) {
            ReportWriter x = Check.withControls(new ReportWriter(30, 5, 20), 5);
            Check.relativeGroup(x, 2, level, 1);
            Check.relativeGroup(x, 4, level, 1);
            x.initiate();
            CHECK.due("its head at the beginning", x.generate(0, 1), 1);
            for (int changed = 5; changed >= 1; changed--) {
                x.set(changed, 2);
                boolean isBroken = level >= changed;
                CHECK.due("level " + level + ", a break of level " + changed, x.generate(0, 1), isBroken ? 2 : 0);
            }
            CHECK.due("its foot at the end", x.terminate(), 2 + 2 * level);
        }
    }

    private static void tenLines() {
        CHECK.holds("Each has LINES (1 .. 10 printed");
        ReportWriter x = new ReportWriter(30, 5, 20);
        Check.relativeGroup(x, 3, 0, 1);
        Check.relativeGroup(x, 3, 0, 1, 1, 1, 1, 1, 1, 1, 1, 1, 1);
        CHECK.due("an 11th", x.line(2, 1, true), -1);
        x.initiate();
        CHECK.due("one", x.generate(1, 1), 1);
        CHECK.due("ten", x.generate(2, 1), 10);
    }

    private static void noLines() {
        CHECK.holds("none: it prints nothing");
        ReportWriter x = Check.withControls(new ReportWriter(30, 5, 20), 1);
        for (int kind = 0; kind <= 6; kind++) {
            x.group(kind, 0);
        }
        x.group(2, 1);
        x.group(4, 1);
        x.initiate();
        CHECK.due("at first", x.generate(4, 1), 0);
        CHECK.due("a detail", x.generate(4, 1), 0);
        x.set(1, 2);
        CHECK.due("a break", x.generate(4, 1), 0);
        CHECK.due("the end", x.terminate(), 0);
        CHECK.due("lines()", x.lines(), 0);
        CHECK.due("the body's page alone", x.counter(0), 1);
        CHECK.due("no line on it", x.counter(1), 0);
    }

    private static void absoluteLine() {
        CHECK.holds("each told by a number on the page (ABSOLUTE, the first one alone)");
        ReportWriter x = new ReportWriter(30, 5, 20);
        x.group(3, 0);
        CHECK.due("the first one", x.line(1, 10, false), 1);
        CHECK.due("the second one", x.line(1, 12, false), -4);
        CHECK.due("the second one, relative", x.line(1, 2, true), 2);
        CHECK.due("the third one", x.line(1, 14, false), -4);
        x.initiate();
        x.generate(1, 1);
        CHECK.column(x, 1, 10, 12);
    }

    private static void relativeLine() {
        CHECK.holds("or as so many behind the one before (RELATIVE, 1 .. 20)");
        ReportWriter x = new ReportWriter(60, 5, 50);
        x.group(3, 0);
        CHECK.due("0", x.line(1, 0, true), -4);
        CHECK.due("21", x.line(1, 21, true), -4);
        CHECK.due("1", x.line(1, 1, true), 1);
        CHECK.due("0, the second one", x.line(1, 0, true), -4);
        CHECK.due("21, the second one", x.line(1, 21, true), -4);
        CHECK.due("20, the second one", x.line(1, 20, true), 2);
        CHECK.due("1, the third one", x.line(1, 1, true), 3);
        x.initiate();
        x.generate(1, 1);
        CHECK.column(x, 1, 5, 25, 26);
    }
}
