/** The document's PRINTING: where lines stand, and when a page is over. */
public final class PrintingTest {
    private static final Check CHECK = new Check("terms, printing");

    public static void main(String[] args) {
        relativeGroups();
        absoluteGroups();
        footsTurnThePage();
        CHECK.end();
    }

    private static void relativeGroups() {
        ReportWriter x = new ReportWriter(12, 3, 8);
        int pageHead = Check.relativeGroup(x, 1, 0, 2);
        int detail = Check.relativeGroup(x, 3, 0, 2, 1);
        int pageFoot = Check.relativeGroup(x, 5, 0, 2, 2);
        x.initiate();
        CHECK.due("page head, detail at the body's first line", x.generate(detail, 1), 3);
        CHECK.due("detail two behind", x.generate(detail, 2), 2);
        CHECK.due("foot, head, detail", x.generate(detail, 3), 5);
        CHECK.row(x, 0, 1, 2, pageHead, 0, 0);
        CHECK.row(x, 1, 1, 3, detail, 0, 1);
        CHECK.row(x, 2, 1, 4, detail, 1, 1);
        CHECK.row(x, 3, 1, 6, detail, 0, 2);
        CHECK.row(x, 4, 1, 7, detail, 1, 2);
        CHECK.row(x, 5, 1, 10, pageFoot, 0, 0);
        CHECK.row(x, 6, 1, 12, pageFoot, 1, 0);
        CHECK.row(x, 7, 2, 2, pageHead, 0, 0);
        CHECK.row(x, 8, 2, 3, detail, 0, 3);
        CHECK.row(x, 9, 2, 4, detail, 1, 3);
    }

    private static void absoluteGroups() {
        ReportWriter x = new ReportWriter(12, 3, 8);
        int at5 = Check.absoluteGroup(x, 3, 0, 5);
        int at6 = Check.absoluteGroup(x, 3, 0, 6);
        int behind = Check.relativeGroup(x, 3, 0, 2);
        x.initiate();
        x.generate(at5, 1);
        x.generate(at6, 2); // behind the latest one: the same page
        x.generate(at6, 3); // at the latest one: the next page
        x.generate(at5, 4); // ahead of the latest one: the next page
        x.generate(behind, 5);
        x.generate(behind, 6); // its line is beyond the foot: the next page
        CHECK.row(x, 0, 1, 5, at5, 0, 1);
        CHECK.row(x, 1, 1, 6, at6, 0, 2);
        CHECK.row(x, 2, 2, 6, at6, 0, 3);
        CHECK.row(x, 3, 3, 5, at5, 0, 4);
        CHECK.row(x, 4, 3, 7, behind, 0, 5);
        CHECK.row(x, 5, 4, 3, behind, 0, 6);
    }

    private static void footsTurnThePage() {
        ReportWriter x = new ReportWriter(12, 3, 4);
        x.control(1);
        int head = Check.relativeGroup(x, 2, 1, 1);
        int foot = Check.relativeGroup(x, 4, 1, 1);
        int detail = Check.relativeGroup(x, 3, 0, 1);
        x.initiate();
        x.generate(detail, 7);
        x.set(1, 2);
        x.generate(detail, 8);
        CHECK.due("terminate()", x.terminate(), 6);
        CHECK.row(x, 0, 1, 3, head, 0, 1);
        CHECK.row(x, 1, 1, 4, detail, 0, 7);
        CHECK.row(x, 2, 2, 3, foot, 0, 1);
        CHECK.row(x, 3, 2, 4, head, 0, 2);
        CHECK.row(x, 4, 3, 3, detail, 0, 8);
        CHECK.row(x, 5, 3, 4, foot, 0, 2);
    }
}
