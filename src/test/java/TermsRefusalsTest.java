/** The last line of the document's terms: each pair of refusals that one call can earn, and the one that is answered. */
public final class TermsRefusalsTest {
    private static final Check CHECK = new Check("terms, several refusals");

    public static void main(String[] args) {
        ofGroup();
        zeroAheadOfNone();
        ofLine();
        ofSum();
        ofControl();
        ofGenerate();
        CHECK.end();
    }

    private static void sentence(String call) {
        CHECK.holds("Of several refusals the first one of -2, -4, -5, NONE, 0", call);
    }

    private static void ofGroup() {
        sentence("group()");
        ReportWriter x = new ReportWriter(20, 5, 15);
        x.group(0, 0);
        x.initiate();
        CHECK.due("-4 kind ahead of -5", x.group(7, 0), -4);
        CHECK.due("-4 control ahead of -5", x.group(2, 1), -4);
        CHECK.due("-5 ahead of 0", x.group(0, 0), -5);
        x.terminate();
        while (x.counter(3) < 20) {
            x.group(3, 0);
        }
        CHECK.due("-4 kind ahead of NONE", x.group(-1, 0), -4);
        CHECK.due("-4 control ahead of NONE", x.group(3, 1), -4);
        x.initiate();
        CHECK.due("-4 ahead of -5 and NONE", x.group(7, 0), -4);
        CHECK.due("-5 ahead of NONE", x.group(3, 0), -5);
        CHECK.due("-5 ahead of 0 and NONE", x.group(0, 0), -5);
    }

    private static void zeroAheadOfNone() {
        CHECK.holds("(of group() 0 ahead of NONE)");
        ReportWriter x = Check.withControls(new ReportWriter(20, 5, 15), 1);
        x.group(0, 0);
        x.group(2, 1);
        while (x.counter(3) < 20) {
            x.group(3, 0);
        }
        CHECK.due("there is a report head", x.group(0, 0), 0);
        CHECK.due("there is a head of level 1", x.group(2, 1), 0);
        CHECK.due("there is no page head", x.group(1, 0), -1);
        CHECK.due("there is no head of level 0", x.group(2, 0), -1);
        CHECK.due("there may be more details", x.group(3, 0), -1);
    }

    private static void ofLine() {
        sentence("line()");
        ReportWriter x = new ReportWriter(20, 2, 11);
        Check.relativeGroup(x, 3, 0, 1, 1, 1, 1, 1, 1, 1, 1, 1, 1);
        Check.relativeGroup(x, 3, 0, 1);
        CHECK.due("-2 ahead of -4", x.line(3, 0, true), -2);
        CHECK.due("-4 relative ahead of NONE and 0", x.line(1, 21, true), -4);
        CHECK.due("-4 absolute ahead of NONE", x.line(1, 5, false), -4);
        CHECK.due("-4 relative ahead of 0", x.line(2, 21, true), -4);
        CHECK.due("-4 absolute ahead of 0", x.line(2, 12, false), -4);
        CHECK.due("NONE ahead of 0", x.line(1, 1, true), -1);
        CHECK.due("0 alone", x.line(2, 10, true), 0);
        x.initiate();
        CHECK.due("-2 ahead of -4 and -5", x.line(0, 0, true), -2);
        CHECK.due("-2 ahead of -5", x.line(3, 1, true), -2);
        CHECK.due("-4 ahead of -5", x.line(2, 0, true), -4);
        CHECK.due("-4 ahead of -5, NONE and 0", x.line(1, 21, true), -4);
        CHECK.due("-4 absolute ahead of -5", x.line(2, 5, false), -4);
        CHECK.due("-5 ahead of NONE and 0", x.line(1, 1, true), -5);
        CHECK.due("-5 ahead of 0", x.line(2, 10, true), -5);
        x.terminate();
        CHECK.due("none of them", x.line(2, 9, true), 2);
    }

    private static void ofSum() {
        sentence("sum()");
        ReportWriter x = new ReportWriter(20, 2, 11);
        x.group(3, 0);
        x.group(4, 0);
        CHECK.due("-2 ahead of -4 of", x.sum(1, 2, 0), -2);
        CHECK.due("-2 ahead of -4 reset", x.sum(3, 0, 1), -2);
        x.initiate();
        CHECK.due("-2 ahead of -5", x.sum(1, 0, 0), -2);
        CHECK.due("-4 of ahead of -5", x.sum(2, 3, 0), -4);
        CHECK.due("-4 reset ahead of -5", x.sum(2, 0, 1), -4);
        x.terminate();
        for (int number = 1; number <= 20; number++) {
            CHECK.due("none of them", x.sum(2, 0, 0), number);
        }
        CHECK.due("-2 ahead of NONE", x.sum(1, 0, 0), -2);
        CHECK.due("-4 of ahead of NONE", x.sum(2, -1, 0), -4);
        CHECK.due("-4 reset ahead of NONE", x.sum(2, 0, -1), -4);
        CHECK.due("NONE alone", x.sum(2, 0, 0), -1);
        x.initiate();
        CHECK.due("-5 ahead of NONE", x.sum(2, 0, 0), -5);
        CHECK.due("-4 ahead of -5 and NONE", x.sum(2, 0, 1), -4);
        CHECK.due("-2 ahead of -4, -5 and NONE", x.sum(1, 9, 9), -2);
    }

    private static void ofControl() {
        sentence("control()");
        ReportWriter x = Check.withControls(new ReportWriter(20, 2, 11), 5);
        CHECK.due("NONE alone", x.control(1), -1);
        x.initiate();
        CHECK.due("-5 ahead of NONE", x.control(1), -5);
        x.terminate();
        CHECK.due("NONE alone again", x.control(1), -1);
    }

    private static void ofGenerate() {
        sentence("generate()");
        ReportWriter x = new ReportWriter(20, 2, 11);
        x.group(3, 0);
        CHECK.due("-2 ahead of -5", x.generate(2, 1), -2);
        x.initiate();
        for (int i = 1; i <= 200; i++) {
            x.generate(1, 1);
        }
        CHECK.due("-2 ahead of NONE", x.generate(2, 1), -2);
        CHECK.due("NONE alone", x.generate(1, 1), -1);
        x.terminate();
        CHECK.due("-5 ahead of NONE", x.generate(1, 1), -5);
        CHECK.due("-2 ahead of -5 and NONE", x.generate(-1, 1), -2);
    }
}
