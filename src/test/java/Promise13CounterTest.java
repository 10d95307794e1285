public final class Promise13CounterTest {
    private static final Check CHECK = new Check("promise 13, counter");

    public static void main(String[] args) {
        pageCounter();
        latestLine();
        noLineOnThisPage();
        initiated();
        groups();
        generatings();
        breaks();
        controls();
        others();
        CHECK.end();
    }

    /** A body of three lines; groups of one line: 1 report head, 2 page head, 3 detail, 4 page foot, 5 report foot. */
    private static ReportWriter made() {
        ReportWriter x = new ReportWriter(20, 3, 5);
        Check.relativeGroup(x, 0, 0, 1);
        Check.relativeGroup(x, 1, 0, 2);
        Check.relativeGroup(x, 3, 0, 1);
        Check.relativeGroup(x, 5, 0, 3);
        Check.relativeGroup(x, 6, 0, 9);
        return x;
    }

    private static void pageCounter() {
        CHECK.holds("what = 0 the page counter");
        ReportWriter x = made();
        CHECK.due("new", x.counter(0), 0);
        x.initiate();
        CHECK.due("initiated", x.counter(0), 0);
        x.generate(0, 1);
        CHECK.due("the report head's page and another one", x.counter(0), 2);
        x.generate(3, 1);
        x.generate(3, 1);
        x.generate(3, 1);
        CHECK.due("a full page", x.counter(0), 2);
        x.generate(3, 1);
        CHECK.due("the next page", x.counter(0), 3);
        x.terminate();
        CHECK.due("the report foot's page", x.counter(0), 4);
        x.initiate();
        CHECK.due("anew", x.counter(0), 0);
        ReportWriter y = new ReportWriter(20, 3, 5);
        y.initiate();
        y.generate(0, 1);
        CHECK.due("a page without groups", y.counter(0), 1);
        y.terminate();
        CHECK.due("the end without a report foot", y.counter(0), 1);
    }

    private static void latestLine() {
        CHECK.holds("1 the latest line on this page");
        ReportWriter x = made();
        x.initiate();
        x.generate(0, 1);
        CHECK.due("a page head's", x.counter(1), 2);
        x.generate(3, 1);
        CHECK.due("a detail's, the body's first", x.counter(1), 3);
        x.generate(3, 1);
        x.generate(0, 1);
        CHECK.due("a detail's", x.counter(1), 4);
        x.generate(3, 1);
        CHECK.due("a detail's, the body's last", x.counter(1), 5);
        x.generate(3, 1);
        CHECK.due("a detail's on the next page", x.counter(1), 3);
        x.terminate();
        CHECK.due("the report foot's", x.counter(1), 9);
        x.initiate();
        CHECK.due("anew", x.counter(1), 0);
    }

    private static void noLineOnThisPage() {
        CHECK.holds("(0 none)");
        ReportWriter x = new ReportWriter(20, 3, 5);
        Check.relativeGroup(x, 0, 0, 2);
        Check.relativeGroup(x, 5, 0, 3);
        CHECK.due("of a new one", x.counter(1), 0);
        x.initiate();
        CHECK.due("behind initiate()", x.counter(1), 0);
        CHECK.due("the report head", x.generate(0, 1), 1);
        CHECK.due("on the page behind the report head's", x.counter(1), 0);
        x.terminate();
        CHECK.due("the page foot's", x.counter(1), 8);
    }

    private static void initiated() {
        CHECK.holds("2 whether it is initiated");
        ReportWriter x = made();
        CHECK.due("new", x.counter(2), 0);
        x.terminate();
        CHECK.due("behind a refused terminate()", x.counter(2), 0);
        x.initiate();
        CHECK.due("initiated", x.counter(2), 1);
        x.initiate();
        CHECK.due("behind a refused initiate()", x.counter(2), 1);
        x.generate(0, 1);
        CHECK.due("behind generate()", x.counter(2), 1);
        x.terminate();
        CHECK.due("behind terminate()", x.counter(2), 0);
        x.initiate();
        CHECK.due("anew", x.counter(2), 1);
    }

    private static void groups() {
        CHECK.holds("3 groups");
        ReportWriter x = new ReportWriter(20, 3, 5);
        CHECK.due("none", x.counter(3), 0);
        for (int number = 1; number <= 20; number++) {
            x.group(3, 0);
            CHECK.due("behind group " + number, x.counter(3), number);
        }
        x.group(3, 0);
        CHECK.due("behind a refused one", x.counter(3), 20);
        x.initiate();
        CHECK.due("behind initiate()", x.counter(3), 20);
    }

    private static void generatings() {
        CHECK.holds("4 generatings");
        ReportWriter x = made();
        x.generate(3, 1);
        CHECK.due("behind a refused one", x.counter(4), 0);
        x.initiate();
        for (int i = 1; i <= 200; i++) {
            x.generate(i % 2 * 3, 1);
            CHECK.due("behind generating " + i, x.counter(4), i);
        }
        x.generate(3, 1);
        CHECK.due("behind the 201st", x.counter(4), 200);
        x.terminate();
        CHECK.due("behind terminate()", x.counter(4), 200);
        x.initiate();
        CHECK.due("anew", x.counter(4), 0);
    }

    private static void breaks() {
        CHECK.holds("5 breaks");
        ReportWriter x = Check.withControls(made(), 2);
        x.set(1, 5);
        x.initiate();
        x.set(1, 6);
        x.generate(3, 1);
        CHECK.due("the first generating", x.counter(5), 0);
        x.generate(3, 1);
        CHECK.due("the same values", x.counter(5), 0);
        x.set(2, 7);
        CHECK.due("behind set()", x.counter(5), 0);
        x.generate(3, 1);
        CHECK.due("another value", x.counter(5), 1);
        x.set(1, 7);
        x.set(2, 8);
        x.generate(0, 1);
        CHECK.due("two other values are one break", x.counter(5), 2);
        x.set(1, 9);
        x.terminate();
        CHECK.due("the end is none", x.counter(5), 2);
        x.initiate();
        CHECK.due("anew", x.counter(5), 0);
    }

    private static void controls() {
        CHECK.holds("6 controls");
        ReportWriter x = made();
        CHECK.due("none", x.counter(6), 0);
        for (int level = 1; level <= 5; level++) {
            x.control(9);
            CHECK.due("behind control " + level, x.counter(6), level);
        }
        x.control(9);
        CHECK.due("behind a refused one", x.counter(6), 5);
        x.initiate();
        CHECK.due("behind initiate()", x.counter(6), 5);
    }

    private static void others() {
        CHECK.holds("NONE for others");
        ReportWriter x = made();
        int[] others = {-1, 7, 8, -7, Integer.MIN_VALUE, Integer.MAX_VALUE};
        for (int what : others) {
            CHECK.due("counter(" + what + ")", x.counter(what), -1);
        }
        CHECK.due("counter(0)", x.counter(0), 0);
        CHECK.due("counter(6)", x.counter(6), 0);
    }
}
