public final class Promise08GenerateTest {
    private static final Check CHECK = new Check("promise 8, generate");

    public static void main(String[] args) {
        refusals();
        twoHundred();
        beginning();
        breaks();
        CHECK.end();
    }

    private static void refusals() {
        ReportWriter x = new ReportWriter(20, 3, 15);
        x.group(3, 0);
        x.group(2, 0);
        CHECK.due("ahead of initiate()", x.generate(1, 1), -5);
        CHECK.due("a summary ahead of initiate()", x.generate(0, 1), -5);
        CHECK.due("-2 ahead of -5", x.generate(3, 1), -2);
        x.initiate();
        CHECK.due("no group", x.generate(3, 1), -2);
        CHECK.due("negative", x.generate(-1, 1), -2);
        CHECK.due("MIN", x.generate(Integer.MIN_VALUE, 1), -2);
        CHECK.due("a control head", x.generate(2, 1), -2);
        CHECK.due("counter(4)", x.counter(4), 0);
        CHECK.due("a detail without lines", x.generate(1, 1), 0);
        CHECK.due("counter(4)", x.counter(4), 1);
        x.terminate();
        CHECK.due("behind terminate()", x.generate(1, 1), -5);
    }

    private static void twoHundred() {
        ReportWriter x = new ReportWriter(20, 3, 15);
        int detail = Check.relativeGroup(x, 3, 0, 1);
        int foot = Check.relativeGroup(x, 4, 0, 1);
        x.sum(foot, 0, 0);
        x.initiate();
        for (int i = 0; i < 200; i++) {
            CHECK.due("generate " + i, x.generate(i % 2 == 0 ? detail : 0, 1), i % 2 == 0 ? 1 : 0);
        }
        CHECK.due("the 201st", x.generate(detail, 1), -1);
        CHECK.due("-2 ahead of NONE", x.generate(foot, 1), -2);
        CHECK.due("counter(4)", x.counter(4), 200);
        CHECK.due("total(1)", x.total(1), 200);
        CHECK.due("lines()", x.lines(), 100);
        CHECK.due("terminate()", x.terminate(), 101);
        x.initiate();
        CHECK.due("anew", x.generate(detail, 1), 1);
    }

    private static void beginning() {
        ReportWriter x = new ReportWriter(20, 4, 15);
        x.control(11);
        x.control(22);
        int head2 = Check.relativeGroup(x, 2, 2, 1);
        int head1 = Check.relativeGroup(x, 2, 1, 2);
        int head0 = Check.relativeGroup(x, 2, 0, 9);
        int detail = Check.relativeGroup(x, 3, 0, 3, 1);
        int pageHead = Check.relativeGroup(x, 1, 0, 1, 2);
        int reportHead = Check.absoluteGroup(x, 0, 0, 2);
        x.initiate();
        CHECK.due("generate at first", x.generate(detail, 77), 8);
        CHECK.row(x, 0, 1, 2, reportHead, 0, 0);
        CHECK.row(x, 1, 2, 1, pageHead, 0, 0);
        CHECK.row(x, 2, 2, 3, pageHead, 1, 0);
        CHECK.row(x, 3, 2, 4, head0, 0, 0);
        CHECK.row(x, 4, 2, 6, head1, 0, 11);
        CHECK.row(x, 5, 2, 7, head2, 0, 22);
        CHECK.row(x, 6, 2, 10, detail, 0, 77);
        CHECK.row(x, 7, 2, 11, detail, 1, 77);
        CHECK.due("generate then", x.generate(detail, 78), 2);
        CHECK.due("a summary", x.generate(0, 79), 0);
    }

    private static void breaks() {
        ReportWriter x = new ReportWriter(60, 4, 50);
        x.control(1);
        x.control(2);
        x.control(3);
        int[] head = new int[4];
        int[] foot = new int[4];
        for (int level = 0; level <= 3; level++) {
            head[level] = Check.relativeGroup(x, 2, level, 1);
            foot[level] = Check.relativeGroup(x, 4, level, 1);
        }
        x.initiate();
        CHECK.due("at first", x.generate(0, 1), 4);
        x.set(3, 30);
        CHECK.due("a break of level 3", x.generate(0, 1), 2);
        CHECK.row(x, 4, 1, 8, foot[3], 0, 3);
        CHECK.row(x, 5, 1, 9, head[3], 0, 30);
        x.set(3, 31);
        x.set(2, 20);
        CHECK.due("a break of level 2", x.generate(0, 1), 4);
        CHECK.row(x, 6, 1, 10, foot[3], 0, 30);
        CHECK.row(x, 7, 1, 11, foot[2], 0, 2);
        CHECK.row(x, 8, 1, 12, head[2], 0, 20);
        CHECK.row(x, 9, 1, 13, head[3], 0, 31);
        x.set(1, 10);
        CHECK.due("a break of level 1 alone", x.generate(0, 1), 6);
        CHECK.row(x, 10, 1, 14, foot[3], 0, 31);
        CHECK.row(x, 11, 1, 15, foot[2], 0, 20);
        CHECK.row(x, 12, 1, 16, foot[1], 0, 1);
        CHECK.row(x, 13, 1, 17, head[1], 0, 10);
        CHECK.row(x, 14, 1, 18, head[2], 0, 20);
        CHECK.row(x, 15, 1, 19, head[3], 0, 31);
        CHECK.due("no break", x.generate(0, 1), 0);
        CHECK.due("counter(5)", x.counter(5), 3);
    }
}
