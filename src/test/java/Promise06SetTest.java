public final class Promise06SetTest {
    private static final Check CHECK = new Check("promise 6, set");

    public static void main(String[] args) {
        ReportWriter x = new ReportWriter(20, 3, 15);
        CHECK.due("set(1, 3) without controls", x.set(1, 3), -4);
        x.control(3);
        x.control(-4);
        CHECK.due("set(0, 1), FINAL has none", x.set(0, 1), -4);
        CHECK.due("set(-1, 1)", x.set(-1, 1), -4);
        CHECK.due("set(3, 1)", x.set(3, 1), -4);
        CHECK.due("set(MAX, 1)", x.set(Integer.MAX_VALUE, 1), -4);
        CHECK.due("set(1, 8)", x.set(1, 8), 3);
        CHECK.due("set(2, 9), it was -4", x.set(2, 9), -4);
        CHECK.due("set(1, 8)", x.set(1, 8), 8);
        x.initiate();
        CHECK.due("set(2, 1) behind initiate()", x.set(2, 1), 9);
        x.generate(0, 0);
        CHECK.due("set(2, 2)", x.set(2, 2), 1);
        CHECK.due("set(2, 1) back", x.set(2, 1), 2);
        x.generate(0, 0);
        CHECK.due("set back is no break", x.counter(5), 0);
        x.set(2, 5);
        x.generate(0, 0);
        CHECK.due("set is a break", x.counter(5), 1);
        x.terminate();
        CHECK.due("set(1, 0) behind terminate()", x.set(1, 0), 8);
        CHECK.end();
    }
}
