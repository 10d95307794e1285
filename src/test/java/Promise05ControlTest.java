public final class Promise05ControlTest {
    private static final Check CHECK = new Check("promise 5, control");

    public static void main(String[] args) {
        itsLevel();
        anyValue();
        behindInitiate();
        five();
        CHECK.end();
    }

    private static void itsLevel() {
        CHECK.holds("One more control, with a value: its level");
        ReportWriter x = new ReportWriter(20, 3, 15);
        for (int level = 1; level <= 5; level++) {
            CHECK.due("control(" + level * 10 + ")", x.control(level * 10), level);
            CHECK.due("counter(6)", x.counter(6), level);
        }
        for (int level = 1; level <= 5; level++) {
            CHECK.due("its value, level " + level, x.set(level, 0), level * 10);
        }
    }

    private static void anyValue() {
        CHECK.holds("with a value");
        int[] values = {Integer.MIN_VALUE, -5, -1, 0, Integer.MAX_VALUE};
        ReportWriter x = new ReportWriter(20, 3, 15);
        for (int i = 0; i < values.length; i++) {
            CHECK.due("control(" + values[i] + ")", x.control(values[i]), i + 1);
        }
        for (int i = 0; i < values.length; i++) {
            CHECK.due("its value, level " + (i + 1), x.set(i + 1, 0), values[i]);
        }
    }

    private static void behindInitiate() {
        CHECK.holds("-5", "behind initiate()");
        ReportWriter x = new ReportWriter(20, 3, 15);
        CHECK.due("ahead of initiate()", x.control(6), 1);
        x.initiate();
        CHECK.due("behind initiate()", x.control(1), -5);
        x.generate(0, 1);
        CHECK.due("behind generate()", x.control(1), -5);
        CHECK.due("counter(6)", x.counter(6), 1);
        CHECK.due("set(2, 0), there is none such", x.set(2, 0), -4);
        x.terminate();
        CHECK.due("behind terminate()", x.control(7), 2);
        CHECK.due("the one before has its value", x.set(1, 0), 6);
        CHECK.due("its value", x.set(2, 0), 7);
    }

    private static void five() {
        CHECK.holds("NONE when there are 5");
        ReportWriter x = Check.withControls(new ReportWriter(20, 3, 15), 4);
        CHECK.due("the fifth", x.control(50), 5);
        CHECK.due("the sixth", x.control(60), -1);
        CHECK.due("counter(6)", x.counter(6), 5);
        CHECK.due("the fifth is as it was", x.set(5, 0), 50);
        CHECK.due("there is no sixth", x.set(6, 0), -4);
        x.initiate();
        x.terminate();
        CHECK.due("the sixth, behind terminate()", x.control(60), -1);
    }
}
