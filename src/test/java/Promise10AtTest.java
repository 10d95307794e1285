public final class Promise10AtTest {
    private static final Check CHECK = new Check("promise 10, at");

    public static void main(String[] args) {
        fromZeroOn();
        firstFourColumns();
        lowest32BitsOfV();
        lowest32BitsOfATotal();
        numberOfDetails();
        numberOfControlHeads();
        firstSumsTotal();
        valueBefore();
        numberOfOthers();
        numberOfLevelZero();
        noSuchLine();
        noSuchColumn();
        manyLines();
        CHECK.end();
    }

    private static ReportWriter made() {
        return new ReportWriter(60, 3, 50);
    }

    private static void fromZeroOn() {
        CHECK.holds("Of the i-th line that was printed, from 0 on");
        ReportWriter x = made();
        Check.relativeGroup(x, 3, 0, 1);
        x.initiate();
        x.generate(1, 10);
        x.generate(1, 11);
        x.generate(1, 12);
        CHECK.row(x, 0, 1, 3, 1, 0, 10);
        CHECK.row(x, 1, 1, 4, 1, 0, 11);
        CHECK.row(x, 2, 1, 5, 1, 0, 12);
    }

    private static void firstFourColumns() {
        CHECK.holds("column 0 the page, 1 its line, 2 its group, 3 which of its lines");
        ReportWriter x = new ReportWriter(20, 3, 5);
        int other = x.group(3, 0);
        int detail = Check.relativeGroup(x, 3, 0, 1, 2);
        x.line(other, 1, true);
        x.initiate();
        x.generate(detail, 7);
        x.generate(other, 8);
        x.generate(detail, 9);
        CHECK.row(x, 0, 1, 3, detail, 0, 7);
        CHECK.row(x, 1, 1, 5, detail, 1, 7);
        CHECK.row(x, 2, 2, 3, other, 0, 8);
        CHECK.row(x, 3, 3, 3, detail, 0, 9);
        CHECK.row(x, 4, 3, 5, detail, 1, 9);
        ReportWriter ten = made();
        Check.relativeGroup(ten, 3, 0, 1, 1, 1, 1, 1, 1, 1, 1, 1, 1);
        ten.initiate();
        ten.generate(1, 1);
        CHECK.column(ten, 3, 0, 1, 2, 3, 4, 5, 6, 7, 8, 9);
    }

    private static void lowest32BitsOfV() {
        CHECK.holds("4 the lowest 32 bits of its number");
        long[] numbers = {0, 1, -1, Integer.MAX_VALUE, Integer.MAX_VALUE + 1L, Integer.MIN_VALUE, Integer.MIN_VALUE - 1L,
            0xFFFF_FFFFL, 0x1_0000_0000L, 0x1_0000_0001L, 0x1_2345_6789L, Long.MAX_VALUE, Long.MIN_VALUE};
        int[] told = {0, 1, -1, Integer.MAX_VALUE, Integer.MIN_VALUE, Integer.MIN_VALUE, Integer.MAX_VALUE,
            -1, 0, 1, 0x2345_6789, -1, 0};
        ReportWriter x = made();
        Check.relativeGroup(x, 3, 0, 1);
        x.initiate();
        for (long v : numbers) {
            x.generate(1, v);
        }
        CHECK.column(x, 4, told);
    }

    private static void lowest32BitsOfATotal() {
        CHECK.holds("4 the lowest 32 bits of its number", "a total that goes beyond them");
        ReportWriter x = Check.withControls(made(), 1);
        Check.relativeGroup(x, 4, 1, 1);
        x.sum(1, 0, 1);
        x.initiate();
        x.generate(0, Integer.MAX_VALUE);
        x.set(1, 2);
        x.generate(0, Integer.MAX_VALUE);
        x.generate(0, 1);
        x.set(1, 3);
        x.generate(0, 0xFFFF_FFFFL);
        x.generate(0, 1);
        CHECK.totals(x, 0x1_0000_0000L);
        x.set(1, 4);
        x.generate(0, Long.MAX_VALUE);
        x.generate(0, 1);
        x.terminate();
        CHECK.column(x, 4, Integer.MAX_VALUE, Integer.MIN_VALUE, 0, 0);
    }

    private static void numberOfDetails() {
        CHECK.holds("of details v");
        ReportWriter x = Check.withControls(made(), 1);
        Check.relativeGroup(x, 3, 0, 1, 1);
        Check.relativeGroup(x, 3, 0, 1);
        x.initiate();
        x.generate(1, 5);
        x.generate(0, 6);
        x.generate(2, -7);
        CHECK.column(x, 4, 5, 5, -7);
    }

    private static void numberOfControlHeads() {
        CHECK.holds("of control heads their control's value (as it is)");
        ReportWriter x = made();
        x.control(6);
        x.control(Integer.MIN_VALUE);
        Check.relativeGroup(x, 2, 1, 1, 1);
        Check.relativeGroup(x, 2, 2, 1);
        x.set(1, 7);
        x.initiate();
        x.set(1, 8);
        x.generate(0, 100);
        CHECK.column(x, 4, 8, 8, Integer.MIN_VALUE);
        x.set(2, 1);
        x.set(2, Integer.MAX_VALUE);
        x.generate(0, 100);
        CHECK.column(x, 4, 8, 8, Integer.MIN_VALUE, Integer.MAX_VALUE);
    }

    private static void firstSumsTotal() {
        CHECK.holds("of control foots their first sum's total");
        ReportWriter x = Check.withControls(made(), 1);
        Check.relativeGroup(x, 3, 0);
        Check.relativeGroup(x, 4, 1, 1, 1);
        Check.relativeGroup(x, 4, 0, 1);
        x.sum(2, 1, 1); // the foot's first one
        x.sum(3, 0, 0);
        x.sum(2, 0, 1);
        x.initiate();
        x.generate(1, 10);
        x.generate(0, 5);
        x.set(1, 2);
        x.generate(1, 3);
        x.terminate();
        CHECK.column(x, 4, 10, 10, 3, 3, 18);
    }

    private static void valueBefore() {
        CHECK.holds("or without one the value before");
        ReportWriter x = made();
        x.control(6);
        Check.relativeGroup(x, 4, 1, 1);
        Check.relativeGroup(x, 4, 0);
        x.sum(2, 0, 0); // another foot's
        x.initiate();
        x.set(1, 7);
        x.generate(0, 100);
        x.set(1, 8);
        x.set(1, 9);
        x.generate(0, 100);
        CHECK.column(x, 4, 7);
        x.set(1, 10);
        x.terminate();
        CHECK.column(x, 4, 7, 9);
    }

    private static void numberOfOthers() {
        CHECK.holds("of others and level 0 (without sums) 0", "others");
        ReportWriter x = made();
        int[] others = {0, 1, 5, 6};
        for (int kind : others) {
            Check.relativeGroup(x, kind, 0, 1);
        }
        x.initiate();
        x.generate(0, 100);
        x.terminate();
        CHECK.column(x, 2, 1, 2, 3, 4);
        CHECK.column(x, 4, 0, 0, 0, 0);
    }

    private static void numberOfLevelZero() {
        CHECK.holds("of others and level 0 (without sums) 0", "level 0");
        for (int sums = 0; sums <= 1; sums++) {
            ReportWriter x = Check.withControls(made(), 1);
            Check.relativeGroup(x, 2, 0, 1);
            Check.relativeGroup(x, 4, 0, 1);
            for (int i = 0; i < sums; i++) {
                x.sum(2, 0, 0);
            }
            x.initiate();
            x.generate(0, 100);
            x.terminate();
            CHECK.column(x, 4, 0, sums == 0 ? 0 : 100);
        }
    }

    private static void noSuchLine() {
        CHECK.holds("ArrayIndexOutOfBoundsException when there is no such line or column.", "line");
        ReportWriter x = made();
        Check.relativeGroup(x, 3, 0, 1, 1);
        CHECK.noCell(x, 0, 0);
        x.initiate();
        CHECK.noCell(x, 0, 0);
        x.generate(1, 4);
        for (int column = 0; column <= 4; column++) {
            CHECK.noCell(x, -1, column);
            CHECK.noCell(x, 2, column);
            CHECK.noCell(x, Integer.MIN_VALUE, column);
            CHECK.noCell(x, Integer.MAX_VALUE, column);
        }
        CHECK.row(x, 0, 1, 3, 1, 0, 4);
        CHECK.row(x, 1, 1, 4, 1, 1, 4);
        x.terminate();
        CHECK.row(x, 1, 1, 4, 1, 1, 4);
        CHECK.noCell(x, 2, 0);
        x.initiate();
        CHECK.noCell(x, 0, 0);
    }

    private static void noSuchColumn() {
        CHECK.holds("ArrayIndexOutOfBoundsException when there is no such line or column.", "column");
        ReportWriter x = made();
        Check.relativeGroup(x, 3, 0, 1, 1);
        x.initiate();
        x.generate(1, 4);
        for (int line = 0; line <= 1; line++) {
            CHECK.noCell(x, line, -1);
            CHECK.noCell(x, line, 5);
            CHECK.noCell(x, line, Integer.MIN_VALUE);
            CHECK.noCell(x, line, Integer.MAX_VALUE);
            CHECK.row(x, line, 1, 3 + line, 1, line, 4);
        }
        CHECK.noCell(x, -1, -1);
        CHECK.noCell(x, 2, 5);
    }

    /** More lines than any one row of the store holds; as many are looked at as 512 calls leave room for. */
    private static void manyLines() {
        CHECK.holds("Of the i-th line that was printed, from 0 on", "2000 lines");
        ReportWriter x = new ReportWriter(100, 2, 99);
        Check.relativeGroup(x, 3, 0, 1, 1, 1, 1, 1, 1, 1, 1, 1, 1);
        x.initiate();
        for (int i = 0; i < 200; i++) {
            x.generate(1, i);
        }
        int[] lines = {0, 1, 9, 10, 62, 63, 64, 65, 89, 90, 127, 128, 129, 191, 192, 255, 256, 511, 512, 513, 640, 999,
            1000, 1023, 1024, 1025, 1279, 1280, 1535, 1536, 1799, 1800, 1919, 1920, 1983, 1984, 1998, 1999};
        for (int i : lines) {
            CHECK.row(x, i, i / 90 + 1, i % 90 + 2, 1, i % 10, i / 10);
        }
        CHECK.noCell(x, 2000, 0);
    }
}
