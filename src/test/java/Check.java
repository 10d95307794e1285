/** Counts and prints the answers of one test that are not the ones that are due, each with the sentence that it breaks. */
final class Check {
    private final String test;
    private String sentence = "";
    private int sentences = 0;
    private int asked = 0;
    private int wrong = 0;

    /** The part of the document that the test is of: a promise, or a section of its own. */
    Check(String test) {
        this.test = test;
    }

    /** The words of the document that the answers from here on hold. */
    void holds(String quoted) {
        sentence = quoted;
        sentences++;
    }

    /** The same, for one case of those that the words bind. */
    void holds(String quoted, String which) {
        holds(quoted);
        sentence = quoted + " (" + which + ")";
    }

    void due(String call, long got, long want) {
        asked++;
        if (got != want || sentence.isEmpty()) {
            wrong++;
            System.out.println(test + " \"" + sentence + "\": " + call + " answered " + got + ", due is " + want);
        }
    }

    /** All five columns of the i-th line that was printed. */
    void row(ReportWriter x, int i, int... want) {
        for (int column = 0; column < 5; column++) {
            due("at(" + i + ", " + column + ")", cell(x, i, column), want[column]);
        }
    }

    /** One column of all lines that were printed. */
    void column(ReportWriter x, int column, int... want) {
        due("lines()", x.lines(), want.length);
        for (int i = 0; i < want.length; i++) {
            due("at(" + i + ", " + column + ")", cell(x, i, column), want[i]);
        }
    }

    void noCell(ReportWriter x, int line, int column) {
        boolean thrown = false;
        try {
            x.at(line, column);
        } catch (ArrayIndexOutOfBoundsException e) {
            thrown = true;
        }
        due("at(" + line + ", " + column + ") throws", thrown ? 1 : 0, 1);
    }

    private static long cell(ReportWriter x, int line, int column) {
        try {
            return x.at(line, column);
        } catch (ArrayIndexOutOfBoundsException e) {
            return Long.MIN_VALUE; // no int, so it is never the due one
        }
    }

    /** The totals of the sums from 1 on. */
    void totals(ReportWriter x, long... want) {
        for (int i = 0; i < want.length; i++) {
            due("total(" + (i + 1) + ")", x.total(i + 1), want[i]);
        }
    }

    /** The counters from 0 on. */
    void counters(ReportWriter x, String when, int... want) {
        for (int what = 0; what < want.length; what++) {
            due("counter(" + what + ") " + when, x.counter(what), want[what]);
        }
    }

    /** A group with its lines, all relative: its number. */
    static int relativeGroup(ReportWriter x, int kind, int control, int... behind) {
        int number = x.group(kind, control);
        for (int n : behind) {
            x.line(number, n, true);
        }
        return number;
    }

    /** A group whose first line is at a number on the page, the others relative: its number. */
    static int absoluteGroup(ReportWriter x, int kind, int control, int n, int... behind) {
        int number = x.group(kind, control);
        x.line(number, n, false);
        for (int more : behind) {
            x.line(number, more, true);
        }
        return number;
    }

    /** So many controls, all of value 1. */
    static ReportWriter withControls(ReportWriter x, int count) {
        for (int level = 1; level <= count; level++) {
            x.control(1);
        }
        return x;
    }

    void end() {
        System.out.println(test + ": " + sentences + " sentences, " + (asked - wrong) + " answers as due, " + wrong + " not");
        if (wrong != 0 || asked == 0) {
            System.exit(1);
        }
    }
}
