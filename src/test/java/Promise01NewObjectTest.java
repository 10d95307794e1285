/** The page and the body are seen by what fits into them. */
public final class Promise01NewObjectTest {
    private static final Check CHECK = new Check("promise 1, a new object");

    public static void main(String[] args) {
        pageOf10To100();
        bodyFromFirst();
        bodyToFoot();
        heldToThese();
        newIsEmpty();
        CHECK.end();
    }

    private static void edges(int page, int first, int foot, int heldPage, int heldFirst, int heldFoot) {
        String made = "new(" + page + ", " + first + ", " + foot + "): ";
        CHECK.due(made + "body ahead of first", lineOf(page, first, foot, 3, heldFirst - 1), 0);
        CHECK.due(made + "body at first", lineOf(page, first, foot, 3, heldFirst), 1);
        CHECK.due(made + "body at foot", lineOf(page, first, foot, 3, heldFoot), 1);
        CHECK.due(made + "body behind foot", lineOf(page, first, foot, 3, heldFoot + 1), 0);
        CHECK.due(made + "report foot at page's end", lineOf(page, first, foot, 6, heldPage), 1);
        CHECK.due(made + "report foot off the page", lineOf(page, first, foot, 6, heldPage + 1), -4);
    }

    private static int lineOf(int page, int first, int foot, int kind, int n) {
        ReportWriter x = new ReportWriter(page, first, foot);
        return x.line(x.group(kind, 0), n, false);
    }

    private static void pageOf10To100() {
        CHECK.holds("A page of 10 .. 100 lines");
        edges(Integer.MIN_VALUE, 3, 5, 10, 3, 5);
        edges(-1, 3, 5, 10, 3, 5);
        edges(0, 3, 5, 10, 3, 5);
        edges(9, 3, 5, 10, 3, 5);
        edges(10, 3, 5, 10, 3, 5);
        edges(11, 3, 5, 11, 3, 5);
        edges(12, 3, 9, 12, 3, 9);
        edges(99, 3, 50, 99, 3, 50);
        edges(100, 3, 50, 100, 3, 50);
        edges(101, 3, 50, 100, 3, 50);
        edges(Integer.MAX_VALUE, 3, 50, 100, 3, 50);
    }

    private static void bodyFromFirst() {
        CHECK.holds("a body from first (2 .. page - 2)");
        edges(20, Integer.MIN_VALUE, 19, 20, 2, 19);
        edges(20, 0, 19, 20, 2, 19);
        edges(20, 1, 19, 20, 2, 19);
        edges(20, 2, 19, 20, 2, 19);
        edges(20, 3, 19, 20, 3, 19);
        edges(20, 17, 19, 20, 17, 19);
        edges(20, 18, 19, 20, 18, 19);
        edges(20, 19, 19, 20, 18, 19);
        edges(20, Integer.MAX_VALUE, 19, 20, 18, 19);
        edges(10, 8, 9, 10, 8, 9);
        edges(10, 9, 9, 10, 8, 9);
        edges(100, 98, 99, 100, 98, 99);
        edges(100, 99, 99, 100, 98, 99);
    }

    private static void bodyToFoot() {
        CHECK.holds("to foot (first .. page - 1)");
        edges(20, 5, Integer.MIN_VALUE, 20, 5, 5);
        edges(20, 5, 4, 20, 5, 5);
        edges(20, 5, 5, 20, 5, 5);
        edges(20, 5, 6, 20, 5, 6);
        edges(20, 5, 18, 20, 5, 18);
        edges(20, 5, 19, 20, 5, 19);
        edges(20, 5, 20, 20, 5, 19);
        edges(20, 5, Integer.MAX_VALUE, 20, 5, 19);
        edges(20, 18, 17, 20, 18, 18);
        edges(20, 18, 18, 20, 18, 18);
    }

    private static void heldToThese() {
        CHECK.holds("(numbers outside are held to these)");
        edges(0, 0, 0, 10, 2, 2);
        edges(Integer.MIN_VALUE, Integer.MIN_VALUE, Integer.MIN_VALUE, 10, 2, 2);
        edges(Integer.MAX_VALUE, Integer.MAX_VALUE, Integer.MAX_VALUE, 100, 98, 99);
        edges(Integer.MIN_VALUE, Integer.MAX_VALUE, Integer.MIN_VALUE, 10, 8, 8);
        edges(Integer.MAX_VALUE, Integer.MIN_VALUE, Integer.MAX_VALUE, 100, 2, 99);
        edges(5, 9, 20, 10, 8, 9);        // first and foot are held to the page that is held itself
        edges(200, 150, 150, 100, 98, 99);
        edges(20, 0, 1, 20, 2, 2);        // foot is held to the first that is held itself
        edges(20, 25, 15, 20, 18, 18);
    }

    private static void newIsEmpty() {
        CHECK.holds("A new object");
        ReportWriter x = new ReportWriter(12, 3, 9);
        CHECK.due("lines()", x.lines(), 0);
        CHECK.counters(x, "new", 0, 0, 0, 0, 0, 0, 0);
        CHECK.due("terminate()", x.terminate(), -5);
        CHECK.due("generate(0, 0)", x.generate(0, 0), -5);
        CHECK.due("total(1)", x.total(1), 0);
        CHECK.due("suppress(1)", x.suppress(1), -2);
        CHECK.due("indicate(1)", x.indicate(1), -2);
        CHECK.noCell(x, 0, 0);
    }
}
