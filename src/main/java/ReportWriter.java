import java.util.ArrayList;

/**
 * A report writer: groups of lines on pages, heads and foots, breaks of controls and sums.
 * The document of the project says what each call promises.
 */
public final class ReportWriter {
    public static final int NONE = -1;

    private static final int NO_SUCH = -2;
    private static final int WRONG = -4;
    private static final int NOT_NOW = -5;
    private static final int REFUSED = 0;

    private static final int REPORT_HEAD = 0;
    private static final int PAGE_HEAD = 1;
    private static final int CONTROL_HEAD = 2;
    private static final int DETAIL = 3;
    private static final int CONTROL_FOOT = 4;
    private static final int PAGE_FOOT = 5;
    private static final int REPORT_FOOT = 6;

    private static final int MOST_CONTROLS = 5;
    private static final int MOST_GROUPS = 20;
    private static final int MOST_LINES_OF_GROUP = 10;
    private static final int MOST_SUMS = 20;
    private static final int MOST_GENERATINGS = 200;
    private static final int FARTHEST_BEHIND = 20;

    private final int page;
    private final int first;
    private final int foot;

    private final ArrayList<Group> groups = new ArrayList<>();
    private final ArrayList<Sum> sums = new ArrayList<>();

    private int controls = 0;
    /** By level; level 0 is FINAL, and its value stays 0. */
    private final int[] values = new int[MOST_CONTROLS + 1];
    /** The values at the latest generating: a break is told by them, and foots are printed with them. */
    private final int[] valuesBefore = new int[MOST_CONTROLS + 1];

    private final Printed printed = new Printed();
    private boolean initiated = false;
    private int pageCounter = 0;
    private int latestLine = 0;
    /** Apart from latestLine, since heads and foots of a page do not move the body. */
    private int latestBodyLine = 0;
    private int generatings = 0;
    private int breaks = 0;
    /** Which stretch between breaks and beginnings of pages this is; each detail keeps the one that it was printed in. */
    private int stretch = 0;

    public ReportWriter(int page, int first, int foot) {
        this.page = held(page, 10, 100);
        this.first = held(first, 2, this.page - 2);
        this.foot = held(foot, this.first, this.page - 1);
    }

    public int group(int kind, int control) {
        if (!isKindOfLevel(kind, control)) {
            return WRONG;
        }
        if (initiated) {
            return NOT_NOW;
        }
        if (kind != DETAIL && groupOf(kind, control) != null) {
            return REFUSED;
        }
        if (groups.size() >= MOST_GROUPS) {
            return NONE;
        }
        int number = groups.size() + 1;
        groups.add(new Group(number, kind, control));
        return number;
    }

    public int line(int group, int n, boolean relative) {
        Group g = groupNumbered(group);
        if (g == null) {
            return NO_SUCH;
        }
        int most = relative ? FARTHEST_BEHIND : page;
        if (n < 1 || n > most || (!relative && g.lineCount > 0)) {
            return WRONG;
        }
        if (initiated) {
            return NOT_NOW;
        }
        if (g.lineCount >= MOST_LINES_OF_GROUP) {
            return NONE;
        }
        if (!fitsWithLine(g, n, relative)) {
            return REFUSED;
        }
        g.addLine(n, relative);
        return g.lineCount;
    }

    public int sum(int group, int of, int reset) {
        Group g = groupNumbered(group);
        if (g == null || g.kind != CONTROL_FOOT) {
            return NO_SUCH;
        }
        if (!isSummable(of, g.level) || reset < 0 || reset > g.level) {
            return WRONG;
        }
        if (initiated) {
            return NOT_NOW;
        }
        if (sums.size() >= MOST_SUMS) {
            return NONE;
        }
        sums.add(new Sum(g.number, g.level, of, reset));
        return sums.size();
    }

    public int control(int value) {
        if (initiated) {
            return NOT_NOW;
        }
        if (controls >= MOST_CONTROLS) {
            return NONE;
        }
        controls++;
        values[controls] = value;
        return controls;
    }

    public int set(int level, int v) {
        if (level < 1 || level > controls) {
            return WRONG;
        }
        int was = values[level];
        values[level] = v;
        return was;
    }

    public int initiate() {
        if (initiated) {
            return NOT_NOW;
        }
        initiated = true;
        printed.clear();
        for (int i = 0; i < sums.size(); i++) {
            sums.get(i).total = 0;
        }
        pageCounter = 0;
        latestLine = 0;
        latestBodyLine = 0;
        generatings = 0;
        breaks = 0;
        return 1;
    }

    public int generate(int detail, long v) {
        Group g = groupNumbered(detail);
        if (detail != 0 && (g == null || g.kind != DETAIL)) {
            return NO_SUCH;
        }
        if (!initiated) {
            return NOT_NOW;
        }
        if (generatings >= MOST_GENERATINGS) {
            return NONE;
        }
        int linesBefore = printed.count;
        int level = changedLevel();
        if (generatings == 0) {
            printOnOwnPage(groupOf(REPORT_HEAD, 0));
            beginPage();
            printControlHeads(0);
        } else if (level <= controls) {
            breaks++;
            printControlFoots(level);
            printControlHeads(level);
            stretch++;
        }
        generatings++;
        System.arraycopy(values, 0, valuesBefore, 0, values.length);
        addToSums(detail, v);
        printInBody(g, v);
        return printed.count - linesBefore;
    }

    public int terminate() {
        if (!initiated) {
            return NOT_NOW;
        }
        if (generatings > 0) {
            printControlFoots(0);
            endPage();
            printOnOwnPage(groupOf(REPORT_FOOT, 0));
        }
        initiated = false;
        return printed.count;
    }

    public int at(int line, int column) throws ArrayIndexOutOfBoundsException {
        if (!printed.has(line, column)) {
            throw new ArrayIndexOutOfBoundsException("no such line or column");
        }
        return printed.cell(line, column);
    }

    public int lines() {
        return printed.count;
    }

    public long total(int sum) {
        Sum s = sumNumbered(sum);
        return s == null ? 0 : s.total;
    }

    public int counter(int what) {
        switch (what) {
            case 0:
                return pageCounter;
            case 1:
                return latestLine;
            case 2:
                return initiated ? 1 : 0;
            case 3:
                return groups.size();
            case 4:
                return generatings;
            case 5:
                return breaks;
            case 6:
                return controls;
            default:
                return NONE;
        }
    }

    public int suppress(int group) {
        Group g = groupNumbered(group);
        if (g == null) {
            return NO_SUCH;
        }
        if (g.suppressed) {
            return REFUSED;
        }
        g.suppressed = true;
        return 1;
    }

    public int indicate(int group) {
        Group g = groupNumbered(group);
        if (g == null || g.kind != DETAIL) {
            return NO_SUCH;
        }
        boolean was = g.indicated;
        g.indicated = !was;
        return was ? 1 : 0;
    }

    // ---- looking things up

    private static int held(int n, int low, int high) {
        return Math.max(low, Math.min(n, high));
    }

    private static boolean isOfBody(int kind) {
        return kind == CONTROL_HEAD || kind == DETAIL || kind == CONTROL_FOOT;
    }

    private boolean isKindOfLevel(int kind, int level) {
        if (kind < REPORT_HEAD || kind > REPORT_FOOT) {
            return false;
        }
        boolean hasLevels = kind == CONTROL_HEAD || kind == CONTROL_FOOT;
        return level >= 0 && level <= (hasLevels ? controls : 0);
    }

    private Group groupNumbered(int number) {
        return number >= 1 && number <= groups.size() ? groups.get(number - 1) : null;
    }

    private Group groupOf(int kind, int level) {
        for (int i = 0; i < groups.size(); i++) {
            Group g = groups.get(i);
            if (g.kind == kind && g.level == level) {
                return g;
            }
        }
        return null;
    }

    private Sum sumNumbered(int number) {
        return number >= 1 && number <= sums.size() ? sums.get(number - 1) : null;
    }

    private Sum firstSumOf(int group) {
        for (int i = 0; i < sums.size(); i++) {
            Sum s = sums.get(i);
            if (s.group == group) {
                return s;
            }
        }
        return null;
    }

    /** The level is that of the foot which the new sum would belong to. */
    private boolean isSummable(int of, int level) {
        if (of == 0) {
            return true;
        }
        if (of > 0) {
            Group g = groupNumbered(of);
            return g != null && g.kind == DETAIL;
        }
        Sum s = sumNumbered(-of);
        return s != null && s.level > level;
    }

    // ---- where lines stand

    private int topmostLine(int kind) {
        if (isOfBody(kind)) {
            return first;
        }
        return kind == PAGE_FOOT ? foot + 1 : 1;
    }

    private int lowestLine(int kind) {
        if (isOfBody(kind)) {
            return foot;
        }
        return kind == REPORT_HEAD || kind == PAGE_HEAD ? first - 1 : page;
    }

    /** Where a group's first line stands on a page whose body has no line yet. */
    private int startOnNewPage(int kind, int n, boolean relative) {
        if (!relative) {
            return n;
        }
        if (isOfBody(kind)) {
            return first;
        }
        return kind == PAGE_FOOT ? foot + n : n;
    }

    private int startInBody(Group g) {
        if (g.relative && latestBodyLine > 0) {
            return latestBodyLine + g.start;
        }
        return startOnNewPage(g.kind, g.start, g.relative);
    }

    private boolean fitsWithLine(Group g, int n, boolean relative) {
        if (g.lineCount == 0) {
            int start = startOnNewPage(g.kind, n, relative);
            return start >= topmostLine(g.kind) && start <= lowestLine(g.kind);
        }
        int start = startOnNewPage(g.kind, g.start, g.relative);
        return start + g.height() + n <= lowestLine(g.kind);
    }

    // ---- printing

    private void printInBody(Group g, long number) {
        if (g == null || !g.takesItsTurn()) {
            return;
        }
        int start = startInBody(g);
        if (start <= latestBodyLine || start + g.height() > foot) {
            endPage();
            beginPage();
            start = startInBody(g);
        }
        boolean hidden = g.indicated && g.latestStretch == stretch;
        printFrom(start, g, hidden ? 0 : number);
        latestBodyLine = latestLine;
        g.latestStretch = stretch;
    }

    private void beginPage() {
        countPage();
        stretch++;
        printOutsideBody(groupOf(PAGE_HEAD, 0));
    }

    private void endPage() {
        printOutsideBody(groupOf(PAGE_FOOT, 0));
    }

    private void countPage() {
        pageCounter++;
        latestLine = 0;
        latestBodyLine = 0;
    }

    private void printOutsideBody(Group g) {
        if (g != null && g.takesItsTurn()) {
            printFrom(startOnNewPage(g.kind, g.start, g.relative), g, 0);
        }
    }

    /** A report head or foot that prints nothing takes no page either. */
    private void printOnOwnPage(Group g) {
        if (g != null && g.takesItsTurn()) {
            countPage();
            printFrom(startOnNewPage(g.kind, g.start, g.relative), g, 0);
        }
    }

    private void printFrom(int start, Group g, long number) {
        for (int i = 0; i < g.lineCount; i++) {
            latestLine = start + g.behindStart[i];
            printed.add(pageCounter, latestLine, g.number, i, (int) number);
        }
    }

    // ---- controls and sums

    /** The greatest control that changed, or a level behind the last one. */
    private int changedLevel() {
        int level = 1;
        while (level <= controls && values[level] == valuesBefore[level]) {
            level++;
        }
        return level;
    }

    private void printControlHeads(int from) {
        for (int level = from; level <= controls; level++) {
            printInBody(groupOf(CONTROL_HEAD, level), values[level]);
        }
    }

    private void printControlFoots(int upTo) {
        for (int level = controls; level >= upTo; level--) {
            Group g = groupOf(CONTROL_FOOT, level);
            if (g != null) {
                Sum s = firstSumOf(g.number);
                printInBody(g, s == null ? valuesBefore[level] : s.total);
            }
            rollSums(level);
            resetSums(level);
        }
    }

    private void addToSums(int detail, long v) {
        for (int i = 0; i < sums.size(); i++) {
            Sum s = sums.get(i);
            if (s.of == 0 || s.of == detail) {
                s.total += v;
            }
        }
    }

    private void rollSums(int level) {
        for (int i = 0; i < sums.size(); i++) {
            Sum s = sums.get(i);
            Sum from = s.of < 0 ? sumNumbered(-s.of) : null;
            if (from != null && from.level == level) {
                s.total += from.total;
            }
        }
    }

    private void resetSums(int level) {
        for (int i = 0; i < sums.size(); i++) {
            Sum s = sums.get(i);
            if (s.reset == level) {
                s.total = 0;
            }
        }
    }

    private static final class Group {
        final int number;
        final int kind;
        final int level;
        /** Of the first line: its number on the page, or how many behind. */
        int start = 0;
        boolean relative = false;
        int lineCount = 0;
        /** Of each line: how many behind the first one. */
        final int[] behindStart = new int[MOST_LINES_OF_GROUP];
        boolean suppressed = false;
        boolean indicated = false;
        /** The stretch that it was printed in at last, indicated or not. */
        int latestStretch = 0;

        Group(int number, int kind, int level) {
            this.number = number;
            this.kind = kind;
            this.level = level;
        }

        void addLine(int n, boolean isRelative) {
            if (lineCount >= behindStart.length) {
                return;
            }
            if (lineCount == 0) {
                start = n;
                relative = isRelative;
            } else {
                behindStart[lineCount] = height() + n;
            }
            lineCount++;
        }

        /** How many lines the last one stands behind the first one. */
        int height() {
            return lineCount == 0 ? 0 : behindStart[lineCount - 1];
        }

        /** Whether it prints now; asking uses a suppression up, with lines or without. */
        boolean takesItsTurn() {
            boolean prints = !suppressed && lineCount > 0;
            suppressed = false;
            return prints;
        }
    }

    private static final class Sum {
        final int group;
        final int level;
        final int of;
        final int reset;
        long total = 0;

        Sum(int group, int level, int of, int reset) {
            this.group = group;
            this.level = level;
            this.of = of;
            this.reset = reset;
        }
    }

    /** The printed lines, on sheets that are kept for the next report, so that none is copied or made twice. */
    private static final class Printed {
        private static final int COLUMNS = 5;
        private static final int LINES_OF_SHEET = 64;

        private final ArrayList<Sheet> sheets = new ArrayList<>();
        int count = 0;

        void clear() {
            count = 0;
        }

        void add(int page, int line, int group, int which, int number) {
            int sheet = count / LINES_OF_SHEET;
            if (sheet >= sheets.size()) {
                sheets.add(new Sheet());
            }
            int[] cells = sheets.get(sheet).cells;
            int from = count % LINES_OF_SHEET * COLUMNS;
            cells[from] = page;
            cells[from + 1] = line;
            cells[from + 2] = group;
            cells[from + 3] = which;
            cells[from + 4] = number;
            count++;
        }

        boolean has(int line, int column) {
            return line >= 0 && line < count && column >= 0 && column < COLUMNS;
        }

        int cell(int line, int column) {
            if (!has(line, column)) {
                return 0;
            }
            Sheet sheet = sheets.get(line / LINES_OF_SHEET);
            return sheet.cells[line % LINES_OF_SHEET * COLUMNS + column];
        }
    }

    private static final class Sheet {
        final int[] cells = new int[Printed.LINES_OF_SHEET * Printed.COLUMNS];
    }
}
