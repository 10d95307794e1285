/** The document's first section: an object lasts for 512 calls. */
public final class WhatItIsTest {
    private static final Check CHECK = new Check("what it is");
    private static final int MOST_CALLS = 512;

    public static void main(String[] args) {
        the512thCall();
        laterCalls();
        CHECK.end();
    }

    /** Group 1 is a detail of one line, initiated; four calls. */
    private static ReportWriter made() {
        ReportWriter x = new ReportWriter(20, 3, 15);
        x.control(1);
        x.group(3, 0);
        x.line(1, 1, true);
        x.initiate();
        return x;
    }

    private static void the512thCall() {
        CHECK.holds("An object is used for at most 512 calls after it has been made");
        for (int last = 0; last <= 4; last++) {
            ReportWriter x = made();
            for (int calls = 4; calls < MOST_CALLS - 1; calls++) {
                x.set(1, calls);
            }
            CHECK.due("the 512th call, " + last, lastCall(x, last), last == 4 ? MOST_CALLS - 2 : 1);
        }
    }

    private static long lastCall(ReportWriter x, int which) {
        switch (which) {
            case 0:
                return x.generate(1, 5);
            case 1:
                return x.counter(2);
            case 2:
                return x.suppress(1);
            case 3:
                return x.terminate() + 1;
            default:
                return x.set(1, 0);
        }
    }

    private static void laterCalls() {
        CHECK.holds("what later calls answer is free", "but none throws, but for at()");
        ReportWriter x = made();
        int calls = 4;
        int thrown = 0;
        try {
            while (calls < 10 * MOST_CALLS) {
                x.generate(1, calls);
                x.set(1, calls);
                if (calls % 300 == 0) {
                    x.terminate();
                    x.initiate();
                    calls += 2;
                }
                calls += 2;
            }
        } catch (RuntimeException e) {
            thrown++;
        }
        CHECK.due("calls that threw", thrown, 0);
    }
}
