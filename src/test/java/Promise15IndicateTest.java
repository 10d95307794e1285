public final class Promise15IndicateTest {
    private static final Check CHECK = new Check("promise 15, indicate");

    public static void main(String[] args) {
        onAndOff();
        theBeginning();
        aBreak();
        aPagesBeginning();
        breaksAndPagesBetween();
        eachDetailForItself();
        printedAheadOfIndicating();
        notPrintedIsNotFirst();
        allItsLines();
        answers();
        noSuchDetail();
        CHECK.end();
    }

    /** One control, a body from 3 to the foot; group 1 is an indicated detail of one line. */
    private static ReportWriter indicated(int foot) {
        ReportWriter x = Check.withControls(new ReportWriter(20, 3, foot), 1);
        Check.relativeGroup(x, 3, 0, 1);
        x.indicate(1);
        return x;
    }

    private static void onAndOff() {
        CHECK.holds("A detail is indicated from now on, or, if it was, not any more");
        ReportWriter x = indicated(15);
        x.initiate();
        x.generate(1, 1);
        x.generate(1, 2);
        x.indicate(1);
        x.generate(1, 3);
        x.generate(1, 4);
        x.indicate(1);
        x.generate(1, 5);
        CHECK.column(x, 4, 1, 0, 3, 4, 0);
    }

    private static void theBeginning() {
        CHECK.holds("its number is told only when it is the first one behind a break, the beginning, or a page's beginning, else 0",
                "the beginning");
        ReportWriter x = indicated(15);
        x.initiate();
        x.generate(0, 1);
        x.generate(1, 2);
        x.generate(0, 3);
        x.generate(1, 4);
        CHECK.column(x, 4, 2, 0);
        x.terminate();
        x.initiate();
        x.generate(1, 5);
        x.generate(1, 6);
        CHECK.column(x, 4, 5, 0);
    }

    private static void aBreak() {
        CHECK.holds("its number is told only when it is the first one behind a break, the beginning, or a page's beginning, else 0",
                "a break");
        ReportWriter x = indicated(15);
        x.initiate();
        x.generate(1, 1);
        x.set(1, 2);
        x.generate(1, 2);
        x.set(1, 2);
        x.generate(1, 3); // the same value is none
        x.set(1, 3);
        x.generate(0, 4); // a summary's break
        x.generate(1, 5);
        x.generate(1, 6);
        CHECK.column(x, 4, 1, 2, 0, 5, 0);
    }

    private static void aPagesBeginning() {
        CHECK.holds("its number is told only when it is the first one behind a break, the beginning, or a page's beginning, else 0",
                "a page's beginning");
        ReportWriter x = indicated(4);
        Check.relativeGroup(x, 3, 0, 1);
        x.initiate();
        x.generate(1, 1);
        x.generate(1, 2); // the page's last line
        x.generate(1, 3); // the next page's first
        x.generate(1, 4);
        x.generate(2, 5); // another detail begins the page
        x.generate(1, 6);
        CHECK.column(x, 4, 1, 0, 3, 0, 5, 6);
    }

    /** However many breaks and pages there were between two of its printings, and in which order. */
    private static void breaksAndPagesBetween() {
        CHECK.holds("its number is told only when it is the first one behind a break, the beginning, or a page's beginning, else 0",
                "several of them between two printings");
        for (int breaks = 0; breaks <= 3; breaks++) {
            for (int pages = 0; pages <= 3; pages++) {
                boolean isFirst = breaks + pages > 0;
                CHECK.due(breaks + " breaks, then " + pages + " pages", numberBehind(1, breaks, pages, 0), isFirst ? 9 : 0);
                CHECK.due(pages + " pages, then " + breaks + " breaks", numberBehind(1, 0, pages, breaks), isFirst ? 9 : 0);
                CHECK.due("never printed, " + breaks + " breaks, " + pages + " pages", numberBehind(0, breaks, pages, 0), 9);
                CHECK.due("never printed, " + pages + " pages, " + breaks + " breaks", numberBehind(0, 0, pages, breaks), 9);
            }
        }
    }

    /** The indicated detail's number, 9, as told behind so many breaks, pages and breaks; at first by itself or by a summary. */
    private static int numberBehind(int atFirst, int breaks, int pages, int breaksBehind) {
        ReportWriter x = indicated(15);
        Check.absoluteGroup(x, 3, 0, 3); // each time on a page of its own
        x.initiate();
        x.generate(atFirst, 1);
        int value = x.set(1, 1);
        for (int i = 0; i < breaks; i++) {
            value++;
            x.set(1, value);
            x.generate(0, 1);
        }
        for (int i = 0; i < pages + 1 - atFirst; i++) {
            x.generate(2, 1);
        }
        for (int i = 0; i < breaksBehind; i++) {
            value++;
            x.set(1, value);
            x.generate(0, 1);
        }
        x.generate(1, 9);
        return x.at(x.lines() - 1, 4);
    }

    private static void eachDetailForItself() {
        CHECK.holds("its number is told only when it is the first one behind a break, the beginning, or a page's beginning, else 0",
                "among its own printings");
        ReportWriter x = indicated(7);
        Check.relativeGroup(x, 3, 0, 1);
        x.indicate(2);
        x.initiate();
        x.generate(1, 1);
        x.generate(2, 2);
        x.generate(1, 3);
        x.set(1, 2);
        x.generate(2, 4); // a break
        x.generate(1, 5);
        x.generate(2, 6); // a page's beginning
        x.generate(2, 7);
        x.generate(1, 8);
        x.generate(1, 9);
        CHECK.column(x, 4, 1, 2, 0, 4, 5, 6, 0, 8, 0);
    }

    private static void printedAheadOfIndicating() {
        CHECK.holds("A detail is indicated from now on", "a printing ahead of it counts as the first one");
        ReportWriter x = new ReportWriter(20, 3, 15);
        Check.relativeGroup(x, 3, 0, 1);
        x.initiate();
        x.generate(1, 1);
        x.indicate(1);
        x.generate(1, 2);
        CHECK.column(x, 4, 1, 0);
    }

    private static void notPrintedIsNotFirst() {
        CHECK.holds("its number is told only when it is the first one behind a break, the beginning, or a page's beginning, else 0",
                "a suppressed one is not printed");
        ReportWriter x = indicated(15);
        x.suppress(1);
        x.initiate();
        x.generate(1, 1);
        x.generate(1, 2);
        x.generate(1, 3);
        CHECK.column(x, 4, 2, 0);
    }

    private static void allItsLines() {
        CHECK.holds("its number is told only when it is the first one behind a break, the beginning, or a page's beginning, else 0",
                "on all its lines");
        ReportWriter x = new ReportWriter(20, 3, 15);
        Check.relativeGroup(x, 3, 0, 1, 1);
        x.indicate(1);
        x.initiate();
        x.generate(1, 7);
        x.generate(1, 8);
        CHECK.column(x, 4, 7, 7, 0, 0);
    }

    private static void answers() {
        CHECK.holds("1 when it was, else 0");
        ReportWriter x = new ReportWriter(20, 3, 15);
        x.group(3, 0);
        x.group(3, 0);
        CHECK.due("it was not", x.indicate(1), 0);
        CHECK.due("it was", x.indicate(1), 1);
        CHECK.due("it was not any more", x.indicate(1), 0);
        CHECK.due("another one was not", x.indicate(2), 0);
        x.initiate();
        CHECK.due("it was, behind initiate()", x.indicate(1), 1);
        x.generate(1, 1);
        CHECK.due("it was not, behind generate()", x.indicate(1), 0);
        x.terminate();
        CHECK.due("it was, behind terminate()", x.indicate(1), 1);
    }

    private static void noSuchDetail() {
        CHECK.holds("-2", "no such detail");
        ReportWriter x = new ReportWriter(20, 3, 15);
        CHECK.due("without groups, indicate(1)", x.indicate(1), -2);
        for (int kind = 0; kind <= 6; kind++) {
            x.group(kind, 0);
            CHECK.due("kind " + kind, x.indicate(kind + 1), kind == 3 ? 0 : -2);
        }
        int[] none = {0, 8, -1, -4, Integer.MIN_VALUE, Integer.MAX_VALUE};
        for (int group : none) {
            CHECK.due("indicate(" + group + ")", x.indicate(group), -2);
        }
    }
}
