public final class Promise06SetTest {
    private static final Check CHECK = new Check("promise 6, set");

    public static void main(String[] args) {
        whatItWas();
        noneSuch();
        valueMinusFour();
        atAnyTime();
        CHECK.end();
    }

    private static void whatItWas() {
        CHECK.holds("A control's value becomes v: what it was");
        ReportWriter x = new ReportWriter(20, 3, 15);
        x.control(3);
        x.control(4);
        int[] values = {8, 8, 0, -1, Integer.MIN_VALUE, Integer.MAX_VALUE};
        int was = 3;
        for (int v : values) {
            CHECK.due("set(1, " + v + ")", x.set(1, v), was);
            was = v;
        }
        CHECK.due("the other control is as it was", x.set(2, 0), 4);
    }

    private static void noneSuch() {
        CHECK.holds("-4 when there is none such");
        for (int count = 0; count <= 5; count++) {
            ReportWriter x = Check.withControls(new ReportWriter(20, 3, 15), count);
            String with = "with " + count + " controls set(";
            CHECK.due(with + "MIN, 7)", x.set(Integer.MIN_VALUE, 7), -4);
            CHECK.due(with + "-1, 7)", x.set(-1, 7), -4);
            CHECK.due(with + "0, 7)", x.set(0, 7), -4);
            CHECK.due(with + (count + 1) + ", 7)", x.set(count + 1, 7), -4);
            CHECK.due(with + "MAX, 7)", x.set(Integer.MAX_VALUE, 7), -4);
            for (int level = 1; level <= count; level++) {
                CHECK.due(with + level + ", 7)", x.set(level, 7), 1);
            }
        }
    }

    private static void valueMinusFour() {
        CHECK.holds("(A value -4 is told alike.)");
        ReportWriter x = new ReportWriter(20, 3, 15);
        x.control(-4);
        CHECK.due("set(1, 9), it was -4", x.set(1, 9), -4);
        CHECK.due("set(1, -4), it became 9", x.set(1, -4), 9);
        CHECK.due("set(1, 5), it became -4", x.set(1, 5), -4);
    }

    private static void atAnyTime() {
        CHECK.holds("each with a VALUE that may be changed at any time");
        ReportWriter x = Check.withControls(new ReportWriter(20, 3, 15), 1);
        CHECK.due("ahead of initiate()", x.set(1, 2), 1);
        x.initiate();
        CHECK.due("behind initiate()", x.set(1, 3), 2);
        x.generate(0, 0);
        CHECK.due("behind generate()", x.set(1, 4), 3);
        x.terminate();
        CHECK.due("behind terminate()", x.set(1, 5), 4);
        x.initiate();
        CHECK.due("behind another initiate()", x.set(1, 6), 5);
    }
}
