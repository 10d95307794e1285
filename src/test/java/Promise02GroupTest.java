public final class Promise02GroupTest {
    private static final Check CHECK = new Check("promise 2, group");

    public static void main(String[] args) {
        numbersAndKinds();
        wrongKindsAndLevels();
        behindInitiate();
        twenty();
        CHECK.end();
    }

    private static void numbersAndKinds() {
        ReportWriter x = new ReportWriter(20, 5, 15);
        x.control(1);
        int[] single = {0, 1, 5, 6};
        int number = 0;
        for (int kind : single) {
            number++;
            CHECK.due("group(" + kind + ", 0)", x.group(kind, 0), number);
            CHECK.due("group(" + kind + ", 0) again", x.group(kind, 0), 0);
        }
        CHECK.due("group(2, 0)", x.group(2, 0), 5);
        CHECK.due("group(2, 1)", x.group(2, 1), 6);
        CHECK.due("group(4, 0)", x.group(4, 0), 7);
        CHECK.due("group(4, 1)", x.group(4, 1), 8);
        CHECK.due("group(2, 1) again", x.group(2, 1), 0);
        CHECK.due("group(4, 0) again", x.group(4, 0), 0);
        CHECK.due("group(3, 0)", x.group(3, 0), 9);
        CHECK.due("group(3, 0), another detail", x.group(3, 0), 10);
        CHECK.due("counter(3)", x.counter(3), 10);
    }

    private static void wrongKindsAndLevels() {
        ReportWriter x = new ReportWriter(20, 5, 15);
        CHECK.due("group(-1, 0)", x.group(-1, 0), -4);
        CHECK.due("group(7, 0)", x.group(7, 0), -4);
        CHECK.due("group(MIN, 0)", x.group(Integer.MIN_VALUE, 0), -4);
        CHECK.due("group(2, 1) without controls", x.group(2, 1), -4);
        CHECK.due("group(4, 1) without controls", x.group(4, 1), -4);
        x.control(1);
        x.control(1);
        CHECK.due("group(2, 2)", x.group(2, 2), 1);
        CHECK.due("group(2, 3)", x.group(2, 3), -4);
        CHECK.due("group(2, -1)", x.group(2, -1), -4);
        CHECK.due("group(4, 3)", x.group(4, 3), -4);
        CHECK.due("group(4, MAX)", x.group(4, Integer.MAX_VALUE), -4);
        int[] withoutLevels = {0, 1, 3, 5, 6};
        for (int kind : withoutLevels) {
            CHECK.due("group(" + kind + ", 1)", x.group(kind, 1), -4);
            CHECK.due("group(" + kind + ", -1)", x.group(kind, -1), -4);
        }
        CHECK.due("counter(3)", x.counter(3), 1);
    }

    private static void behindInitiate() {
        ReportWriter x = new ReportWriter(20, 5, 15);
        x.group(0, 0);
        x.initiate();
        CHECK.due("group(3, 0) behind initiate()", x.group(3, 0), -5);
        CHECK.due("-4 ahead of -5", x.group(7, 0), -4);
        CHECK.due("-5 ahead of 0", x.group(0, 0), -5);
        x.terminate();
        CHECK.due("group(3, 0) behind terminate()", x.group(3, 0), 2);
    }

    private static void twenty() {
        ReportWriter x = new ReportWriter(20, 5, 15);
        x.group(1, 0);
        for (int number = 2; number <= 20; number++) {
            CHECK.due("group(3, 0)", x.group(3, 0), number);
        }
        CHECK.due("the 21st", x.group(3, 0), -1);
        CHECK.due("0 ahead of NONE", x.group(1, 0), 0);
        CHECK.due("NONE, there is none such", x.group(0, 0), -1);
        CHECK.due("-4 ahead of NONE", x.group(8, 0), -4);
        x.initiate();
        CHECK.due("-5 ahead of NONE", x.group(3, 0), -5);
        CHECK.due("counter(3)", x.counter(3), 20);
    }
}
