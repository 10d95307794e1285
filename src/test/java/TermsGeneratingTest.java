/** The document's GENERATING and TERMINATING: what is printed, and in which order. */
public final class TermsGeneratingTest {
    private static final Check CHECK = new Check("terms, GENERATING and TERMINATING");

    public static void main(String[] args) {
        atFirst();
        headsOfAllLevels();
        noControls();
        anotherValue();
        thanAtTheGeneratingBefore();
        theFirstOneIsNoBreak();
        onTheLeastLevel();
        footsThenHeads();
        sumsThenTheDetail();
        theEnd();
        footsOfAllLevels();
        nothingGenerated();
        CHECK.end();
    }

    /** So many controls, of values 10, 20 and so on; the head of level k is group 2 k + 1, its foot 2 k + 2. */
    private static ReportWriter withHeadsAndFoots(int controls) {
        ReportWriter x = new ReportWriter(100, 4, 99);
        for (int level = 1; level <= controls; level++) {
            x.control(10 * level);
        }
        for (int level = 0; level <= controls; level++) {
            Check.relativeGroup(x, 2, level, 1);
            Check.relativeGroup(x, 4, level, 1);
        }
        return x;
    }

    private static void atFirst() {
        CHECK.holds("at first: the report head, then a page begins, and control heads of all levels, 0 first, are printed");
        ReportWriter x = new ReportWriter(20, 4, 15);
        x.control(11);
        x.control(22);
        int head2 = Check.relativeGroup(x, 2, 2, 1);
        int head1 = Check.relativeGroup(x, 2, 1, 2);
        int head0 = Check.relativeGroup(x, 2, 0, 9);
        int detail = Check.relativeGroup(x, 3, 0, 3, 1);
        int pageHead = Check.relativeGroup(x, 1, 0, 1, 2);
        int reportHead = Check.absoluteGroup(x, 0, 0, 2);
        x.initiate();
        CHECK.due("the first one", x.generate(detail, 77), 8);
        CHECK.column(x, 0, 1, 2, 2, 2, 2, 2, 2, 2);
        CHECK.column(x, 1, 2, 1, 3, 4, 6, 7, 10, 11);
        CHECK.column(x, 2, reportHead, pageHead, pageHead, head0, head1, head2, detail, detail);
        CHECK.column(x, 4, 0, 0, 0, 0, 11, 22, 77, 77);
        CHECK.due("the second one", x.generate(detail, 78), 2);
    }

    private static void headsOfAllLevels() {
        CHECK.holds("control heads of all levels, 0 first, are printed", "five levels");
        ReportWriter x = withHeadsAndFoots(5);
        x.initiate();
        x.generate(0, 1);
        CHECK.column(x, 2, 1, 3, 5, 7, 9, 11);
        CHECK.column(x, 4, 0, 10, 20, 30, 40, 50);
    }

    private static void noControls() {
        CHECK.holds("control heads of all levels, 0 first, are printed", "level 0 alone");
        ReportWriter x = withHeadsAndFoots(0);
        x.initiate();
        CHECK.due("at first", x.generate(0, 1), 1);
        CHECK.due("then", x.generate(0, 1), 0);
        CHECK.due("no break", x.counter(5), 0);
        x.terminate();
        CHECK.column(x, 2, 1, 2);
    }

    private static void anotherValue() {
        CHECK.holds("if a control's value is another one");
        int[] values = {10, 11, 10, 9, 9, Integer.MAX_VALUE, Integer.MIN_VALUE, Integer.MIN_VALUE, 0, 0};
        int[] breaks = {0, 1, 1, 1, 0, 1, 1, 0, 1, 0};
        ReportWriter x = withHeadsAndFoots(1);
        x.initiate();
        x.generate(0, 1);
        for (int i = 0; i < values.length; i++) {
            x.set(1, values[i]);
            CHECK.due("generating with " + values[i], x.generate(0, 1), 2 * breaks[i]);
        }
        CHECK.due("counter(5)", x.counter(5), 6);
    }

    private static void thanAtTheGeneratingBefore() {
        CHECK.holds("than at the generating before");
        ReportWriter x = withHeadsAndFoots(2);
        x.initiate();
        x.generate(0, 1);
        x.set(1, 5);
        x.set(1, 10);
        CHECK.due("set and set back", x.generate(0, 1), 0);
        x.set(2, 5);
        CHECK.due("a refused generating", x.generate(99, 1), -2);
        x.set(2, 20);
        CHECK.due("set back behind it", x.generate(0, 1), 0);
        x.set(2, 5);
        CHECK.due("a break", x.generate(0, 1), 2);
        CHECK.due("the generating behind the break", x.generate(0, 1), 0);
        x.set(2, 20);
        CHECK.due("back to the value ahead of the break", x.generate(0, 1), 2);
        CHECK.due("counter(5)", x.counter(5), 2);
    }

    private static void theFirstOneIsNoBreak() {
        CHECK.holds("Else: if a control's value is another one");
        ReportWriter x = withHeadsAndFoots(1);
        x.set(1, 11);
        x.initiate();
        x.set(1, 12);
        CHECK.due("the first one", x.generate(0, 1), 2);
        CHECK.column(x, 2, 1, 3);
        x.terminate();
        x.set(1, 13);
        x.initiate();
        CHECK.due("the first one of another report", x.generate(0, 1), 2);
        CHECK.column(x, 2, 1, 3);
        CHECK.due("counter(5)", x.counter(5), 0);
    }

    private static void onTheLeastLevel() {
        CHECK.holds("there is a BREAK, on the least level (the greatest control) that changed");
        for (int least = 1; least <= 5; least++) {
            for (int greatest = least; greatest <= 5; greatest++) {
                ReportWriter x = withHeadsAndFoots(5);
                x.initiate();
                x.generate(0, 1);
                x.set(greatest, 1);
                x.set(least, 2);
                String changed = "levels " + least + " and " + greatest + " changed";
                CHECK.due(changed, x.generate(0, 1), 2 * (6 - least));
                CHECK.due("one break", x.counter(5), 1);
                CHECK.due("the last foot is of level " + least, x.at(6 + 5 - least, 2), 2 * least + 2);
                CHECK.due("the first head is of level " + least, x.at(6 + 6 - least, 2), 2 * least + 1);
            }
        }
    }

    private static void footsThenHeads() {
        CHECK.holds("control foots from the last level up to that one are printed (with the values before), then control heads of that one to the last");
        ReportWriter x = withHeadsAndFoots(3);
        x.initiate();
        x.generate(0, 1);
        x.set(3, 31);
        x.generate(0, 1);
        x.set(3, 32);
        x.set(2, 21);
        x.generate(0, 1);
        x.set(1, 11);
        x.generate(0, 1);
        CHECK.column(x, 2, 1, 3, 5, 7, 8, 7, 8, 6, 5, 7, 8, 6, 4, 3, 5, 7);
        CHECK.column(x, 4, 0, 10, 20, 30, 30, 31, 31, 20, 21, 32, 32, 21, 10, 11, 21, 32);
    }

    private static void sumsThenTheDetail() {
        CHECK.holds("Then sums take v, then the detail is printed.");
        ReportWriter x = Check.withControls(new ReportWriter(20, 3, 15), 1);
        Check.relativeGroup(x, 3, 0, 1);
        Check.relativeGroup(x, 4, 1, 1);
        Check.relativeGroup(x, 2, 1, 1);
        x.sum(2, 0, 1);
        x.initiate();
        x.generate(1, 5);
        CHECK.totals(x, 5);
        x.set(1, 2);
        x.generate(1, 7); // the break's foot is without it
        CHECK.totals(x, 7);
        CHECK.column(x, 2, 3, 1, 2, 3, 1);
        CHECK.column(x, 4, 1, 5, 5, 2, 7);
    }

    private static void theEnd() {
        CHECK.holds("TERMINATING: control foots of all levels, 0 last, the page foot, the report foot");
        ReportWriter x = new ReportWriter(20, 3, 15);
        x.control(5);
        Check.relativeGroup(x, 4, 0, 1);
        Check.relativeGroup(x, 4, 1, 1);
        Check.relativeGroup(x, 5, 0, 2, 1);
        Check.relativeGroup(x, 6, 0, 4, 1);
        Check.relativeGroup(x, 3, 0, 1);
        x.initiate();
        x.generate(5, 9);
        x.set(1, 6); // not the value at the latest generating
        CHECK.due("terminate()", x.terminate(), 7);
        CHECK.column(x, 0, 1, 1, 1, 1, 1, 2, 2);
        CHECK.column(x, 1, 3, 4, 5, 17, 18, 4, 5);
        CHECK.column(x, 2, 5, 2, 1, 3, 3, 4, 4);
        CHECK.column(x, 4, 9, 5, 0, 0, 0, 0, 0);
    }

    private static void footsOfAllLevels() {
        CHECK.holds("control foots of all levels, 0 last", "five levels");
        ReportWriter x = withHeadsAndFoots(5);
        x.initiate();
        x.generate(0, 1);
        x.terminate();
        CHECK.column(x, 2, 1, 3, 5, 7, 9, 11, 12, 10, 8, 6, 4, 2);
        CHECK.column(x, 4, 0, 10, 20, 30, 40, 50, 50, 40, 30, 20, 10, 0);
    }

    private static void nothingGenerated() {
        CHECK.holds("if nothing was generated, nothing");
        ReportWriter x = new ReportWriter(20, 3, 15);
        for (int kind = 0; kind <= 6; kind++) {
            Check.relativeGroup(x, kind, 0, 1);
        }
        x.suppress(6);
        x.initiate();
        CHECK.due("a refused generating is none", x.generate(1, 1), -2);
        CHECK.due("terminate()", x.terminate(), 0);
        CHECK.counters(x, "of nothing", 0, 0, 0, 7, 0, 0, 0);
        CHECK.due("no suppression is used up", x.suppress(6), 0);
        x.initiate();
        x.generate(0, 1);
        CHECK.due("a summary is enough, but for the suppressed foot", x.terminate(), 5);
        x.initiate();
        CHECK.due("nothing again, behind a report", x.terminate(), 0);
    }
}
