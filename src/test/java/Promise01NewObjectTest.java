/** The page and the body are seen by what fits into them. */
public final class Promise01NewObjectTest {
    private static final Check CHECK = new Check("promise 1, a new object");

    public static void main(String[] args) {
        edges(12, 3, 9, 12, 3, 9);
        edges(10, 2, 9, 10, 2, 9);
        edges(100, 98, 99, 100, 98, 99);
        edges(9, 2, 9, 10, 2, 9);
        edges(101, 3, 50, 100, 3, 50);
        edges(20, 1, 10, 20, 2, 10);
        edges(20, 19, 19, 20, 18, 19);
        edges(20, 18, 17, 20, 18, 18);
        edges(20, 5, 4, 20, 5, 5);
        edges(20, 5, 20, 20, 5, 19);
        edges(0, 0, 0, 10, 2, 2);
        edges(Integer.MIN_VALUE, Integer.MIN_VALUE, Integer.MIN_VALUE, 10, 2, 2);
        edges(Integer.MAX_VALUE, Integer.MAX_VALUE, Integer.MAX_VALUE, 100, 98, 99);
        newIsEmpty();
        CHECK.end();
    }

    private static void edges(int page, int first, int foot, int heldPage, int heldFirst, int heldFoot) {
        String made = "new(" + page + ", " + first + ", " + foot + "): ";
        CHECK.due(made + "body ahead of first", lineOf(page, first, foot, 3, heldFirst - 1), 0);
        CHECK.due(made + "body at first", lineOf(page, first, foot, 3, heldFirst), 1);
        CHECK.due(made + "body at foot", lineOf(page, first, foot, 3, heldFoot), 1);
        CHECK.due(made + "body behind foot", lineOf(page, first, foot, 3, heldFoot + 1), 0);
        CHECK.due(made + "report foot at page's end", lineOf(page, first, foot, 6, heldPage), 1);
        CHECK.due(made + "report foot off the page", lineOf(page, first, foot, 6, heldPage + 1), -4);
    }

    private static int lineOf(int page, int first, int foot, int kind, int n) {
        ReportWriter x = new ReportWriter(page, first, foot);
        return x.line(x.group(kind, 0), n, false);
    }

    private static void newIsEmpty() {
        ReportWriter x = new ReportWriter(12, 3, 9);
        CHECK.due("lines()", x.lines(), 0);
        for (int what = 0; what <= 6; what++) {
            CHECK.due("counter(" + what + ")", x.counter(what), 0);
        }
        CHECK.due("terminate()", x.terminate(), -5);
        CHECK.noCell(x, 0, 0);
    }
}
