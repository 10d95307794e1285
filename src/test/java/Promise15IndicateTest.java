public final class Promise15IndicateTest {
    private static final Check CHECK = new Check("promise 15, indicate");

    public static void main(String[] args) {
        answers();
        beginningBreakAndPage();
        severalDetails();
        eachDetailForItself();
        printedAheadOfIndicating();
        notPrintedIsNotFirst();
        CHECK.end();
    }

    private static void answers() {
        ReportWriter x = new ReportWriter(20, 3, 15);
        CHECK.due("no group", x.indicate(1), -2);
        for (int kind = 0; kind <= 6; kind++) {
            x.group(kind, 0);
            CHECK.due("kind " + kind, x.indicate(kind + 1), kind == 3 ? 0 : -2);
        }
        CHECK.due("indicate(0)", x.indicate(0), -2);
        CHECK.due("indicate(8)", x.indicate(8), -2);
        CHECK.due("it was", x.indicate(4), 1);
        CHECK.due("it was not", x.indicate(4), 0);
        x.initiate();
        CHECK.due("behind initiate()", x.indicate(4), 1);
    }

    private static void numbers(ReportWriter x, int... want) {
        for (int i = 0; i < want.length; i++) {
            CHECK.due("at(" + i + ", 4)", x.at(i, 4), want[i]);
        }
    }

    private static void beginningBreakAndPage() {
        ReportWriter x = new ReportWriter(20, 3, 6);
        x.control(1);
        int detail = Check.relativeGroup(x, 3, 0, 1);
        x.indicate(detail);
        x.initiate();
        x.generate(detail, 1); // the beginning
        x.generate(detail, 2);
        x.set(1, 2);
        x.generate(detail, 3); // a break
        x.generate(detail, 4);
        x.generate(detail, 5); // a page's beginning
        x.generate(detail, 6);
        x.indicate(detail);
        x.generate(detail, 7); // not indicated any more
        x.indicate(detail);
        x.generate(detail, 8);
        x.set(1, 3);
        x.generate(0, 9); // a break, by a summary
        x.suppress(detail);
        x.terminate();
        numbers(x, 1, 0, 3, 0, 5, 0, 7, 0);
        x.suppress(detail);
        x.initiate();
        x.generate(detail, 1);
        x.generate(detail, 2); // the first one that is printed
        CHECK.due("at(0, 4)", x.at(0, 4), 2);
    }

    private static void severalDetails() {
        ReportWriter x = new ReportWriter(20, 3, 15);
        int plain = Check.relativeGroup(x, 3, 0, 1);
        int indicated = Check.relativeGroup(x, 3, 0, 1, 1);
        x.indicate(indicated);
        x.initiate();
        x.generate(plain, 1);
        x.generate(indicated, 2); // the first one of its own printings
        x.generate(plain, 3);
        x.generate(indicated, 4);
        numbers(x, 1, 2, 2, 3, 0, 0);
        x.terminate();
        x.initiate();
        x.generate(indicated, 5); // the beginning of another report
        x.generate(indicated, 6);
        numbers(x, 5, 5, 0, 0);
    }

    private static void eachDetailForItself() {
        ReportWriter x = new ReportWriter(20, 3, 7);
        x.control(1);
        int one = Check.relativeGroup(x, 3, 0, 1);
        int other = Check.relativeGroup(x, 3, 0, 1);
        x.indicate(one);
        x.indicate(other);
        x.initiate();
        x.generate(one, 1);
        x.generate(other, 2);
        x.generate(one, 3);
        x.set(1, 2);
        x.generate(other, 4); // a break
        x.generate(one, 5);
        x.generate(other, 6); // a page's beginning
        x.generate(other, 7);
        x.generate(one, 8);
        x.generate(one, 9);
        numbers(x, 1, 2, 0, 4, 5, 6, 0, 8, 0);
    }

    private static void printedAheadOfIndicating() {
        ReportWriter x = new ReportWriter(20, 3, 15);
        int detail = Check.relativeGroup(x, 3, 0, 1);
        x.initiate();
        x.generate(detail, 1);
        x.indicate(detail);
        x.generate(detail, 2); // not the first one, though the first one since it is indicated
        numbers(x, 1, 0);
    }

    private static void notPrintedIsNotFirst() {
        ReportWriter x = new ReportWriter(20, 3, 15);
        x.control(1);
        int detail = Check.relativeGroup(x, 3, 0, 1);
        x.indicate(detail);
        x.initiate();
        x.generate(0, 1);
        x.generate(detail, 2);
        x.set(1, 2);
        x.generate(0, 3);
        x.generate(detail, 4); // the first one behind the summary's break
        x.generate(detail, 5);
        numbers(x, 2, 4, 0);
    }
}
