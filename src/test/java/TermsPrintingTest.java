/** The document's PRINTING: where lines stand, and when a page is over. */
public final class TermsPrintingTest {
    private static final Check CHECK = new Check("terms, PRINTING");

    public static void main(String[] args) {
        atItsNumber();
        soManyBehind();
        atTheBodysFirstLine();
        theOthersBehind();
        firstLineNotBehind();
        relativeIsAlwaysBehind();
        lastLineBeyondFoot();
        everyGroupOfTheBodyTurns();
        newPageAheadOfIt();
        aPageThatBegins();
        aPageThatIsOver();
        pagesOfTheirOwn();
        headsFromLineZero();
        pageFootFromTheFoot();
        headsAndFootsLeaveTheBody();
        CHECK.end();
    }

    /** A body of 3 .. 8. */
    private static ReportWriter made() {
        return new ReportWriter(12, 3, 8);
    }

    private static void atItsNumber() {
        CHECK.holds("its first line stands at its number");
        for (int n = 3; n <= 8; n++) {
            ReportWriter x = made();
            Check.absoluteGroup(x, 3, 0, n);
            x.initiate();
            x.generate(1, 1);
            CHECK.column(x, 1, n);
        }
    }

    private static void soManyBehind() {
        CHECK.holds("or so many behind the latest line of the body on this page");
        int[] behind = {1, 2, 19, 20};
        for (int n : behind) {
            ReportWriter x = new ReportWriter(60, 3, 50);
            Check.relativeGroup(x, 3, 0, n);
            Check.absoluteGroup(x, 3, 0, 7);
            x.initiate();
            x.generate(1, 1);
            x.generate(1, 1);
            CHECK.column(x, 1, 3, 3 + n);
            x.terminate();
            x.initiate();
            x.generate(2, 1);
            x.generate(1, 1);
            CHECK.column(x, 1, 7, 7 + n);
        }
    }

    private static void atTheBodysFirstLine() {
        CHECK.holds("(if there is none on it, at the body's first line)");
        int[] behind = {1, 2, 20};
        for (int n : behind) {
            ReportWriter x = made();
            Check.relativeGroup(x, 3, 0, n, 5);
            Check.relativeGroup(x, 1, 0, 1);
            x.initiate();
            x.generate(1, 1);
            x.generate(1, 1);
            CHECK.column(x, 0, 1, 1, 1, 2, 2, 2);
            CHECK.column(x, 1, 1, 3, 8, 1, 3, 8);
        }
    }

    private static void theOthersBehind() {
        CHECK.holds("the others behind it");
        ReportWriter x = new ReportWriter(60, 3, 50);
        Check.relativeGroup(x, 3, 0, 4, 1, 20, 2);
        Check.absoluteGroup(x, 3, 0, 30, 20);
        x.initiate();
        x.generate(1, 1);
        x.generate(2, 1);
        CHECK.column(x, 1, 3, 4, 24, 26, 30, 50);
        CHECK.column(x, 0, 1, 1, 1, 1, 1, 1);
    }

    private static void firstLineNotBehind() {
        CHECK.holds("If its first line would not be behind the latest one");
        int[] pages = {2, 2, 1}; // at 5, 6 and 7, behind a line at 6
        for (int i = 0; i < pages.length; i++) {
            ReportWriter x = made();
            Check.absoluteGroup(x, 3, 0, 4, 2);
            Check.absoluteGroup(x, 3, 0, 5 + i);
            x.initiate();
            x.generate(1, 1);
            x.generate(2, 1);
            CHECK.column(x, 1, 4, 6, 5 + i);
            CHECK.column(x, 0, 1, 1, pages[i]);
        }
    }

    private static void relativeIsAlwaysBehind() {
        CHECK.holds("If its first line would not be behind the latest one", "an absolute line at the body's first");
        ReportWriter x = made();
        Check.absoluteGroup(x, 3, 0, 3);
        Check.relativeGroup(x, 3, 0, 1);
        x.initiate();
        x.generate(1, 1); // ahead of it there is none
        x.generate(2, 1);
        x.generate(1, 1);
        x.generate(1, 1);
        CHECK.column(x, 0, 1, 1, 2, 3);
        CHECK.column(x, 1, 3, 4, 3, 3);
    }

    private static void lastLineBeyondFoot() {
        CHECK.holds("or its last one is beyond the foot");
        int[] pages = {1, 1, 2}; // its last line at 7, 8 and 9
        for (int i = 0; i < pages.length; i++) {
            ReportWriter one = made();
            Check.absoluteGroup(one, 3, 0, 5);
            Check.relativeGroup(one, 3, 0, 2 + i);
            one.initiate();
            one.generate(1, 1);
            one.generate(2, 1);
            CHECK.column(one, 0, 1, pages[i]);
            CHECK.column(one, 1, 5, pages[i] == 1 ? 7 + i : 3);
            ReportWriter two = made();
            Check.absoluteGroup(two, 3, 0, 5);
            Check.relativeGroup(two, 3, 0, 1, 1 + i);
            two.initiate();
            two.generate(1, 1);
            two.generate(2, 1);
            CHECK.column(two, 0, 1, pages[i], pages[i]);
            CHECK.column(two, 1, 5, pages[i] == 1 ? 6 : 3, pages[i] == 1 ? 7 + i : 4 + i);
        }
    }

    /** Control heads, details and foots, in a body of one line. */
    private static void everyGroupOfTheBodyTurns() {
        CHECK.holds("PRINTING a group of the body (2, 3, 4)");
        ReportWriter x = Check.withControls(new ReportWriter(12, 3, 3), 1);
        Check.relativeGroup(x, 2, 1, 1);
        Check.relativeGroup(x, 3, 0, 1);
        Check.relativeGroup(x, 4, 1, 1);
        x.initiate();
        x.generate(2, 7);
        x.set(1, 2);
        x.generate(2, 8);
        CHECK.due("terminate()", x.terminate(), 6);
        CHECK.column(x, 0, 1, 2, 3, 4, 5, 6);
        CHECK.column(x, 1, 3, 3, 3, 3, 3, 3);
        CHECK.column(x, 2, 1, 2, 3, 1, 2, 3);
        CHECK.column(x, 4, 1, 7, 1, 2, 8, 2);
    }

    private static void newPageAheadOfIt() {
        CHECK.holds("the page is over, and a new one begins, ahead of it");
        ReportWriter x = made();
        int pageHead = Check.relativeGroup(x, 1, 0, 2);
        int detail = Check.relativeGroup(x, 3, 0, 2, 1);
        int pageFoot = Check.relativeGroup(x, 5, 0, 2, 2);
        x.initiate();
        CHECK.due("page head, detail", x.generate(detail, 1), 3);
        CHECK.due("detail", x.generate(detail, 2), 2);
        CHECK.due("page foot, page head, detail", x.generate(detail, 3), 5);
        CHECK.column(x, 0, 1, 1, 1, 1, 1, 1, 1, 2, 2, 2);
        CHECK.column(x, 1, 2, 3, 4, 6, 7, 10, 12, 2, 3, 4);
        CHECK.column(x, 2, pageHead, detail, detail, detail, detail, pageFoot, pageFoot, pageHead, detail, detail);
    }

    private static void aPageThatBegins() {
        CHECK.holds("A page that BEGINS: the page counter is one more, then the page head is printed");
        ReportWriter x = new ReportWriter(12, 3, 3);
        Check.relativeGroup(x, 1, 0, 1);
        Check.relativeGroup(x, 3, 0, 1);
        x.initiate();
        for (int page = 1; page <= 3; page++) {
            x.generate(2, page);
            CHECK.due("counter(0)", x.counter(0), page);
            CHECK.row(x, 2 * page - 2, page, 1, 1, 0, 0);
            CHECK.row(x, 2 * page - 1, page, 3, 2, 0, page);
        }
    }

    private static void aPageThatIsOver() {
        CHECK.holds("when it is OVER: the page foot");
        ReportWriter x = new ReportWriter(12, 3, 3);
        Check.relativeGroup(x, 3, 0, 1);
        Check.relativeGroup(x, 5, 0, 1);
        x.initiate();
        CHECK.due("not yet over", x.generate(1, 1), 1);
        CHECK.due("over", x.generate(1, 1), 2);
        CHECK.due("a summary does not turn it", x.generate(0, 1), 0);
        CHECK.due("over at the end", x.terminate(), 4);
        CHECK.column(x, 0, 1, 1, 2, 2);
        CHECK.column(x, 2, 1, 2, 1, 2);
    }

    private static void pagesOfTheirOwn() {
        CHECK.holds("Report head and report foot stand on a page of their own (without page head and foot)");
        ReportWriter x = made();
        int reportHead = Check.relativeGroup(x, 0, 0, 1, 1);
        int pageHead = Check.relativeGroup(x, 1, 0, 1);
        int pageFoot = Check.relativeGroup(x, 5, 0, 1);
        int reportFoot = Check.relativeGroup(x, 6, 0, 1, 11);
        x.initiate();
        x.generate(0, 1);
        x.terminate();
        CHECK.column(x, 2, reportHead, reportHead, pageHead, pageFoot, reportFoot, reportFoot);
        CHECK.column(x, 0, 1, 1, 2, 2, 3, 3);
        CHECK.column(x, 1, 1, 2, 1, 9, 1, 12);
    }

    private static void headsFromLineZero() {
        CHECK.holds("heads begin at line 0");
        for (int kind = 0; kind <= 1; kind++) {
            for (int n = 1; n <= 5; n++) {
                ReportWriter x = new ReportWriter(12, 6, 8);
                x.group(kind, 0);
                CHECK.due("relative 6, the body's first line", x.line(1, 6, true), 0);
                x.line(1, n, true);
                x.initiate();
                x.generate(0, 1);
                CHECK.column(x, 1, n);
            }
        }
    }

    private static void pageFootFromTheFoot() {
        CHECK.holds("a page foot behind the body's last line, relative lines being counted from there");
        for (int n = 1; n <= 4; n++) {
            ReportWriter x = made();
            x.group(5, 0);
            CHECK.due("relative 5, beyond the page", x.line(1, 5, true), 0);
            x.line(1, n, true);
            x.initiate();
            x.generate(0, 1);
            x.terminate();
            CHECK.column(x, 1, 8 + n);
        }
    }

    private static void headsAndFootsLeaveTheBody() {
        CHECK.holds("so many behind the latest line of the body on this page", "not of heads and foots of pages");
        ReportWriter x = made();
        Check.absoluteGroup(x, 1, 0, 2);
        Check.absoluteGroup(x, 5, 0, 12);
        Check.relativeGroup(x, 3, 0, 3, 2);
        Check.absoluteGroup(x, 3, 0, 3);
        x.initiate();
        x.generate(3, 1);
        x.generate(3, 1);
        x.generate(4, 1);
        CHECK.column(x, 0, 1, 1, 1, 1, 2, 2, 2, 2, 3, 3);
        CHECK.column(x, 1, 2, 3, 5, 12, 2, 3, 5, 12, 2, 3);
    }
}
