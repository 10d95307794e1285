/** Counts and prints the answers of one test that are not the ones that are due. */
final class Check {
    private final String test;
    private int asked = 0;
    private int wrong = 0;

    Check(String test) {
        this.test = test;
    }

    void due(String call, long got, long want) {
        asked++;
        if (got != want) {
            wrong++;
            System.out.println(test + ": " + call + " answered " + got + ", due is " + want);
        }
    }

    /** All five columns of the i-th line that was printed. */
    void row(ReportWriter x, int i, int... want) {
        for (int column = 0; column < 5; column++) {
            due("at(" + i + ", " + column + ")", cell(x, i, column), want[column]);
        }
    }

    void noCell(ReportWriter x, int line, int column) {
        boolean thrown = false;
        try {
            x.at(line, column);
        } catch (ArrayIndexOutOfBoundsException e) {
            thrown = true;
        }
        due("at(" + line + ", " + column + ") throws", thrown ? 1 : 0, 1);
    }

    private static long cell(ReportWriter x, int line, int column) {
        try {
            return x.at(line, column);
        } catch (ArrayIndexOutOfBoundsException e) {
            return Long.MIN_VALUE; // no int, so it is never the due one
        }
    }

    /** A group with its lines, all relative: its number. */
    static int relativeGroup(ReportWriter x, int kind, int control, int... behind) {
        int number = x.group(kind, control);
        for (int n : behind) {
            x.line(number, n, true);
        }
        return number;
    }

    /** A group of one line at a number on the page: its number. */
    static int absoluteGroup(ReportWriter x, int kind, int control, int n) {
        int number = x.group(kind, control);
        x.line(number, n, false);
        return number;
    }

    void end() {
        System.out.println(test + ": " + (asked - wrong) + " answers as due, " + wrong + " not");
        if (wrong != 0 || asked == 0) {
            System.exit(1);
        }
    }
}
