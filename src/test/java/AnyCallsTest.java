import java.util.Random;

/** Runs of up to 512 calls with any arguments: nothing is thrown but by at(), and the printed lines stand where they may. */
public final class AnyCallsTest {
    private static final Check CHECK = new Check("any calls");
    private static final int MOST_CALLS = 512;
    /** Calls that are kept for looking at the printed lines. */
    private static final int KEPT_CALLS = 160;
    private static final int[] EDGES = {Integer.MIN_VALUE, Integer.MIN_VALUE + 1, -100, -21, -20, -5, -2, -1, 0, 1, 2,
        5, 6, 7, 10, 11, 19, 20, 21, 99, 100, 101, 512, Integer.MAX_VALUE - 1, Integer.MAX_VALUE};

    private final Random random;
    private final int page;
    private final int first;
    private final int foot;
    private final ReportWriter x;
    private final int[] kinds = new int[21];
    private int calls = 0;

    private AnyCallsTest(long seed) {
        random = new Random(seed);
        page = 10 + random.nextInt(91);
        first = 2 + random.nextInt(page - 3);
        foot = first + random.nextInt(page - first);
        x = new ReportWriter(page, first, foot);
    }

    public static void main(String[] args) {
        CHECK.holds("An object is used for at most 512 calls after it has been made", "any calls");
        for (long seed = 0; seed < 3000; seed++) {
            new AnyCallsTest(seed).run();
        }
        dearestRun();
        CHECK.end();
    }

    private int any() {
        return random.nextInt(4) == 0 ? EDGES[random.nextInt(EDGES.length)] : random.nextInt(12) - 1;
    }

    private void run() {
        while (calls < MOST_CALLS - KEPT_CALLS) {
            call(calls < 100 ? random.nextInt(11) : random.nextInt(20));
        }
        x.terminate();
        calls++;
        linesStandInOrder();
    }

    private void call(int which) {
        calls++;
        switch (which) {
            case 0: case 1: case 2:
                callGroup(any());
                break;
            case 3: case 4: case 5:
                x.line(any(), any(), random.nextInt(4) != 0);
                break;
            case 6: case 7:
                x.sum(any(), -any(), any());
                break;
            case 8:
                x.control(any());
                break;
            case 9:
                x.suppress(any());
                break;
            case 10:
                x.indicate(any());
                break;
            case 11:
                x.initiate();
                break;
            case 12:
                callTerminate();
                break;
            case 13:
                x.set(any(), any());
                break;
            case 14:
                callAt(any(), any());
                break;
            case 15:
                x.total(any());
                break;
            case 16:
                x.counter(any());
                break;
            default:
                callGenerate();
        }
    }

    private void callGroup(int kind) {
        int number = x.group(kind, random.nextBoolean() ? 0 : any());
        if (number > 0) {
            kinds[number] = kind;
        }
    }

    private void callTerminate() {
        int told = x.terminate();
        calls++;
        int lines = x.lines();
        CHECK.due("terminate() tells lines()", told == -5 ? lines : told, lines);
    }

    private void callAt(int line, int column) {
        calls++;
        boolean isThere = line >= 0 && line < x.lines() && column >= 0 && column < 5;
        if (isThere) {
            x.at(line, column);
        } else {
            CHECK.noCell(x, line, column);
        }
    }

    private void callGenerate() {
        calls += 2;
        int before = x.lines();
        int told = x.generate(any(), random.nextLong());
        CHECK.due("generate() tells what it printed", x.lines() - before, Math.max(told, 0));
    }

    /** As many of the printed lines as the kept calls reach. */
    private void linesStandInOrder() {
        int place = 0;
        calls++;
        int lines = x.lines();
        for (int i = 0; i < lines && calls + 3 <= MOST_CALLS; i++) {
            calls += 3;
            int line = x.at(i, 1);
            int next = x.at(i, 0) * 101 + line;
            CHECK.due("line " + i + " stands behind the one before", next > place ? 1 : 0, 1);
            place = next;
            int kind = kinds[x.at(i, 2)];
            CHECK.due("line " + i + " of kind " + kind + " stands in its region", inRegion(kind, line) ? 1 : 0, 1);
        }
    }

    private boolean inRegion(int kind, int line) {
        switch (kind) {
            case 0: case 1:
                return line >= 1 && line < first;
            case 5:
                return line > foot && line <= page;
            case 6:
                return line >= 1 && line <= page;
            default:
                return line >= first && line <= foot;
        }
    }

    /** As many lines as 512 calls can print: every group of the body turns the page, at every generating. */
    private static void dearestRun() {
        ReportWriter x = new ReportWriter(40, 12, 21);
        int calls = 0;
        for (int level = 1; level <= 5; level++) {
            x.control(0);
            calls++;
        }
        int[] kinds = {1, 5, 3, 2, 2, 2, 2, 2, 2, 4, 4, 4, 4, 4, 4};
        int[] levels = {0, 0, 0, 0, 1, 2, 3, 4, 5, 0, 1, 2, 3, 4, 5};
        for (int i = 0; i < kinds.length; i++) {
            x.group(kinds[i], levels[i]);
            for (int n = 1; n <= 10; n++) {
                CHECK.due("line", x.line(i + 1, 1, true), n);
            }
            calls += 11;
        }
        x.initiate();
        x.generate(3, 1);
        calls += 4; // with terminate() and lines()
        while (calls + 2 <= MOST_CALLS) {
            x.set(1, calls);
            CHECK.due("generate", x.generate(3, calls), 11 * 30);
            calls += 2;
        }
        CHECK.due("terminate() tells lines()", x.terminate(), x.lines());
    }
}
