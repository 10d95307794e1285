public final class Promise02GroupTest {
    private static final Check CHECK = new Check("promise 2, group");
    private static final int[] WITHOUT_LEVELS = {0, 1, 3, 5, 6};

    public static void main(String[] args) {
        itsNumber();
        kinds();
        levels();
        noLevels();
        oneSuch();
        oneSuchOfALevel();
        behindInitiate();
        twenty();
        CHECK.end();
    }

    private static ReportWriter made() {
        return new ReportWriter(20, 5, 15);
    }

    private static void itsNumber() {
        CHECK.holds("A new group: its number");
        ReportWriter x = Check.withControls(made(), 1);
        int[] kinds = {0, 1, 5, 6, 2, 4, 2, 4, 3, 3};
        int[] levels = {0, 0, 0, 0, 0, 0, 1, 1, 0, 0};
        for (int i = 0; i < kinds.length; i++) {
            CHECK.due("group(" + kinds[i] + ", " + levels[i] + ")", x.group(kinds[i], levels[i]), i + 1);
            CHECK.due("counter(3)", x.counter(3), i + 1);
        }
    }

    private static void kinds() {
        CHECK.holds("-4 kind is not 0 .. 6");
        for (int kind = 0; kind <= 6; kind++) {
            CHECK.due("group(" + kind + ", 0)", made().group(kind, 0), 1);
        }
        int[] none = {-1, 7, 8, -7, Integer.MIN_VALUE, Integer.MAX_VALUE};
        for (int kind : none) {
            ReportWriter x = made();
            CHECK.due("group(" + kind + ", 0)", x.group(kind, 0), -4);
            CHECK.due("counter(3)", x.counter(3), 0);
        }
    }

    private static void levels() {
        CHECK.holds("or control is not 0 .. how many controls there are (for kinds 2, 4;");
        for (int count = 0; count <= 5; count++) {
            for (int kind = 2; kind <= 4; kind += 2) {
                String with = "with " + count + " controls group(" + kind + ", ";
                ReportWriter x = Check.withControls(made(), count);
                CHECK.due(with + "MIN)", x.group(kind, Integer.MIN_VALUE), -4);
                CHECK.due(with + "-1)", x.group(kind, -1), -4);
                CHECK.due(with + (count + 1) + ")", x.group(kind, count + 1), -4);
                CHECK.due(with + "MAX)", x.group(kind, Integer.MAX_VALUE), -4);
                CHECK.due("counter(3)", x.counter(3), 0);
                for (int level = 0; level <= count; level++) {
                    CHECK.due(with + level + ")", x.group(kind, level), level + 1);
                }
            }
        }
    }

    private static void noLevels() {
        CHECK.holds("0 for others)");
        for (int kind : WITHOUT_LEVELS) {
            for (int count = 0; count <= 1; count++) {
                ReportWriter x = Check.withControls(made(), count);
                CHECK.due("group(" + kind + ", -1)", x.group(kind, -1), -4);
                CHECK.due("group(" + kind + ", 1)", x.group(kind, 1), -4);
                CHECK.due("group(" + kind + ", MAX)", x.group(kind, Integer.MAX_VALUE), -4);
                CHECK.due("group(" + kind + ", 0)", x.group(kind, 0), 1);
            }
        }
    }

    private static void oneSuch() {
        CHECK.holds("0 when there is one such");
        for (int kind = 0; kind <= 6; kind++) {
            ReportWriter x = made();
            x.group(kind, 0);
            CHECK.due("group(" + kind + ", 0) again", x.group(kind, 0), kind == 3 ? 2 : 0);
            CHECK.due("counter(3)", x.counter(3), kind == 3 ? 2 : 1);
        }
    }

    private static void oneSuchOfALevel() {
        CHECK.holds("there is one at most of each other kind but details, and of a kind and level");
        for (int kind = 2; kind <= 4; kind += 2) {
            ReportWriter x = Check.withControls(made(), 2);
            CHECK.due("group(" + kind + ", 1)", x.group(kind, 1), 1);
            CHECK.due("group(" + kind + ", 1) again", x.group(kind, 1), 0);
            CHECK.due("another level, group(" + kind + ", 0)", x.group(kind, 0), 2);
            CHECK.due("another level, group(" + kind + ", 2)", x.group(kind, 2), 3);
            CHECK.due("group(" + kind + ", 0) again", x.group(kind, 0), 0);
            CHECK.due("group(" + kind + ", 2) again", x.group(kind, 2), 0);
            CHECK.due("another kind, group(" + (6 - kind) + ", 1)", x.group(6 - kind, 1), 4);
        }
    }

    private static void behindInitiate() {
        CHECK.holds("-5 behind initiate()");
        ReportWriter x = made();
        CHECK.due("ahead of initiate()", x.group(3, 0), 1);
        x.initiate();
        CHECK.due("behind initiate()", x.group(3, 0), -5);
        x.generate(0, 1);
        CHECK.due("behind generate()", x.group(3, 0), -5);
        CHECK.due("counter(3)", x.counter(3), 1);
        x.terminate();
        CHECK.due("behind terminate()", x.group(3, 0), 2);
        x.initiate();
        CHECK.due("behind another initiate()", x.group(3, 0), -5);
    }

    private static void twenty() {
        CHECK.holds("NONE when there are 20");
        ReportWriter x = made();
        for (int number = 1; number <= 20; number++) {
            CHECK.due("group(3, 0)", x.group(3, 0), number);
        }
        for (int kind = 0; kind <= 6; kind++) {
            CHECK.due("the 21st, group(" + kind + ", 0)", x.group(kind, 0), -1);
        }
        CHECK.due("counter(3)", x.counter(3), 20);
        CHECK.due("the 20th is there", x.line(20, 1, true), 1);
        CHECK.due("the 21st is not", x.line(21, 1, true), -2);
        x.initiate();
        x.terminate();
        CHECK.due("behind terminate() too", x.group(3, 0), -1);
    }
}
