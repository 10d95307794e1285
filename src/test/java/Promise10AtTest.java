public final class Promise10AtTest {
    private static final Check CHECK = new Check("promise 10, at");

    public static void main(String[] args) {
        outside();
        numbers();
        manyLines();
        CHECK.end();
    }

    private static void outside() {
        ReportWriter x = new ReportWriter(20, 3, 15);
        Check.relativeGroup(x, 3, 0, 1, 1);
        CHECK.noCell(x, 0, 0);
        x.initiate();
        x.generate(1, 4);
        CHECK.row(x, 1, 1, 4, 1, 1, 4);
        CHECK.noCell(x, 2, 0);
        CHECK.noCell(x, -1, 0);
        CHECK.noCell(x, 0, -1);
        CHECK.noCell(x, 0, 5);
        CHECK.noCell(x, Integer.MAX_VALUE, 4);
        CHECK.noCell(x, Integer.MIN_VALUE, 0);
        CHECK.noCell(x, 0, Integer.MAX_VALUE);
        CHECK.noCell(x, 0, Integer.MIN_VALUE);
        x.terminate();
        CHECK.row(x, 0, 1, 3, 1, 0, 4);
        x.initiate();
        CHECK.noCell(x, 0, 0);
    }

    private static void numbers() {
        ReportWriter x = new ReportWriter(60, 3, 50);
        x.control(6);
        x.control(7);
        int detail = Check.relativeGroup(x, 3, 0, 1);
        int head = Check.relativeGroup(x, 2, 1, 1);
        int foot0 = Check.relativeGroup(x, 4, 0, 1);
        int foot1 = Check.relativeGroup(x, 4, 1, 1);
        int foot2 = Check.relativeGroup(x, 4, 2, 1);
        x.sum(foot1, detail, 1);
        x.sum(foot1, 0, 1);
        x.sum(foot0, 0, 0);
        x.initiate();
        x.generate(detail, 0x1_2345_6789L);
        CHECK.row(x, 0, 1, 3, head, 0, 6);
        CHECK.row(x, 1, 1, 4, detail, 0, 0x2345_6789);
        x.generate(detail, -1L);
        CHECK.row(x, 2, 1, 5, detail, 0, -1);
        x.generate(0, 1000);
        x.set(1, 8);
        x.generate(detail, 0xF000_0000L);
        CHECK.row(x, 3, 1, 6, foot2, 0, 7);
        CHECK.row(x, 4, 1, 7, foot1, 0, 0x2345_6788);
        CHECK.row(x, 5, 1, 8, head, 0, 8);
        CHECK.row(x, 6, 1, 9, detail, 0, 0xF000_0000);
        x.terminate();
        CHECK.row(x, 9, 1, 12, foot0, 0, (int) (0x1_2345_6788L + 1000 + 0xF000_0000L));
    }

    /** More lines than any one row of the store holds. */
    private static void manyLines() {
        ReportWriter x = new ReportWriter(100, 2, 99);
        Check.relativeGroup(x, 3, 0, 1, 1, 1, 1, 1, 1, 1, 1, 1, 1);
        x.initiate();
        for (int i = 0; i < 200; i++) {
            x.generate(1, i);
        }
        for (int i = 0; i < 2000; i++) {
            int ofPage = i % 90;
            CHECK.row(x, i, i / 90 + 1, ofPage + 2, 1, i % 10, i / 10);
        }
        CHECK.noCell(x, 2000, 0);
    }
}
