public final class Promise05ControlTest {
    private static final Check CHECK = new Check("promise 5, control");

    public static void main(String[] args) {
        ReportWriter x = new ReportWriter(20, 3, 15);
        for (int level = 1; level <= 5; level++) {
            CHECK.due("control(" + level * 10 + ")", x.control(level * 10), level);
            CHECK.due("counter(6)", x.counter(6), level);
        }
        CHECK.due("the sixth", x.control(60), -1);
        CHECK.due("set(1, 0)", x.set(1, 0), 10);
        CHECK.due("set(5, 0)", x.set(5, 0), 50);
        x.initiate();
        CHECK.due("-5 ahead of NONE", x.control(1), -5);
        CHECK.due("counter(6)", x.counter(6), 5);
        behindInitiate();
        CHECK.end();
    }

    private static void behindInitiate() {
        ReportWriter x = new ReportWriter(20, 3, 15);
        x.control(Integer.MIN_VALUE);
        x.initiate();
        CHECK.due("behind initiate()", x.control(1), -5);
        x.generate(0, 1);
        x.terminate();
        CHECK.due("behind terminate()", x.control(7), 2);
        CHECK.due("set(1, 0)", x.set(1, 0), Integer.MIN_VALUE);
        CHECK.due("set(2, 0)", x.set(2, 0), 7);
    }
}
