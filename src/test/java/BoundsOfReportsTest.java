/** Promises 11 to 16, sentence by sentence: the ends of all ranges, and what lies behind them. */
public final class BoundsOfReportsTest {
    private static final boolean[] TURNED_OR_NOT = {false, true};
    private static final int[][] CORNERS = {{0, 0}, {0, 3}, {2, 0}, {2, 3}};

    /** A call that is told a table and a level. */
    private interface ReportCall {
        int on(Pivotforge x, int table, int level);
    }

    /** A call that is told an entry, too. */
    private interface EntryCall {
        int on(Pivotforge x, int table, int level, int first, int second);
    }

    public static void main(String[] args) {
        promise11();
        promise12();
        promise13();
        promise14();
        promise15();
        promise16();
        Document.allQuoted("Promise 11", "Promise 12", "Promise 13", "Promise 14",
                "Promise 15", "Promise 16");
        Check.end();
    }

    private static void promise11() {
        Check.sentence(11, "Builds a report, also if there is one.",
                BoundsOfReportsTest::buildBuildsAndBuildsAnew);
        reportRange(11, Pivotforge::build);
        Check.sentence(11, "Returns how many entries it hides.",
                BoundsOfReportsTest::buildReturnsFrom0To30);
        Check.sentence(11, "Throws `IndexOutOfBoundsException` if there is no such table or level",
                () -> strangeReports(Pivotforge::build));
    }

    private static void promise12() {
        Check.sentence(12, "Tells whether there is a report.",
                BoundsOfReportsTest::isBuiltTellsOfEachReport);
        reportRange(12, (x, table, level) -> x.isBuilt(table, level) ? 1 : 0);
        Check.sentence(12, "Throws `IndexOutOfBoundsException` if there is no such table or level",
                () -> strangeReports((x, table, level) -> x.isBuilt(table, level) ? 1 : 0));
    }

    private static void promise13() {
        Check.sentence(13, "Returns what a report shows of an entry.",
                BoundsOfReportsTest::shownShowsAllEntries);
        entryRange(13, Pivotforge::shown);
        Check.sentence(13, "Returns the number; HIDDEN if it is hidden.",
                BoundsOfReportsTest::shownReturnsTheNumberOrHidden);
        Check.sentence(13,
                "Throws `IndexOutOfBoundsException` if there is no such table, level or entry",
                () -> strangeReportsAndEntries(Pivotforge::shown));
        Check.sentence(13, "Throws `IllegalStateException` if there is no report",
                () -> noReport((x, table, level) -> x.shown(table, level, 0, 0)));
    }

    private static void promise14() {
        Check.sentence(14, "Tells what an entry of a report is.",
                BoundsOfReportsTest::whyTellsOfAllEntries);
        entryRange(14, Pivotforge::why);
        Check.sentence(14, "Returns SHOWN, EMBARGOED, COVERED or UNBUILT.",
                BoundsOfReportsTest::whyReturnsOneOfFour);
        Check.sentence(14,
                "Throws `IndexOutOfBoundsException` if there is no such table, level or entry",
                () -> strangeReportsAndEntries(Pivotforge::why));
    }

    private static void promise15() {
        Check.sentence(15, "Returns how many sales, none taken back, a report has read.",
                BoundsOfReportsTest::readReturnsFrom0To120);
        reportRange(15, Pivotforge::read);
        Check.sentence(15, "Throws `IndexOutOfBoundsException` if there is no such table or level",
                () -> strangeReports(Pivotforge::read));
        Check.sentence(15, "Throws `IllegalStateException` if there is no report",
                () -> noReport(Pivotforge::read));
    }

    private static void promise16() {
        Check.sentence(16, "Returns how many reports were dropped so far; "
                + "those that were built anew do not count.",
                BoundsOfReportsTest::droppedCountsDropsAlone);
    }

    private static void reportRange(int promise, ReportCall call) {
        Check.sentence(promise, "`table`: 0 to 2", () -> reportsOfTables0To2(call));
        Check.sentence(promise, "`level`: 0 to 3", () -> reportsOfLevels0To3(call));
    }

    private static void entryRange(int promise, EntryCall call) {
        reportRange(promise, (x, table, level) -> call.on(x, table, level, 0, 0));
        Check.sentence(promise, "`first`: the row, or the column if the table is turned",
                () -> firstIsRowOrColumn(call));
        Check.sentence(promise, "`second`: the column, or the row if the table is turned",
                () -> secondIsColumnOrRow(call));
    }

    // ---- what several calls have

    private static void reportsOfTables0To2(ReportCall call) {
        for (boolean turned : TURNED_OR_NOT) {
            Pivotforge x = withReports(turned);
            for (int t = 0; t < 3; t++) {
                int table = t;
                answers("table " + table, () -> call.on(x, table, 3));
            }
            for (int table : Check.outside(0, 2)) {
                Check.outOfBounds("table " + table, () -> call.on(x, table, 0));
            }
        }
    }

    private static void reportsOfLevels0To3(ReportCall call) {
        for (boolean turned : TURNED_OR_NOT) {
            Pivotforge x = withReports(turned);
            for (int l = 0; l < 4; l++) {
                int level = l;
                answers("level " + level, () -> call.on(x, 1, level));
            }
            for (int level : Check.outside(0, 3)) {
                Check.outOfBounds("level " + level, () -> call.on(x, 1, level));
            }
        }
    }

    private static void strangeReports(ReportCall call) {
        for (boolean turned : TURNED_OR_NOT) {
            for (Pivotforge x : new Pivotforge[] {Houses.withTable1(turned), withReports(turned)}) {
                for (int table : Check.outside(0, 2)) {
                    Check.outOfBounds("table", () -> call.on(x, table, 3));
                    for (int level : Check.outside(0, 3)) {
                        Check.outOfBounds("level", () -> call.on(x, 1, level));
                        Check.outOfBounds("both", () -> call.on(x, table, level));
                    }
                }
            }
        }
    }

    private static void firstIsRowOrColumn(EntryCall call) {
        Pivotforge x = withReports(false);
        for (int greatest : new int[] {4, 5, 4}) {
            for (int f = 0; f <= greatest; f++) {
                int first = f;
                answers("first " + first, () -> call.on(x, 1, 0, first, 4));
            }
            for (int first : Check.outside(0, greatest)) {
                Check.outOfBounds("first " + first, () -> call.on(x, 1, 0, first, 4));
            }
            x.turn(1);
        }
    }

    private static void secondIsColumnOrRow(EntryCall call) {
        Pivotforge x = withReports(false);
        for (int greatest : new int[] {5, 4, 5}) {
            for (int s = 0; s <= greatest; s++) {
                int second = s;
                answers("second " + second, () -> call.on(x, 1, 0, 4, second));
            }
            for (int second : Check.outside(0, greatest)) {
                Check.outOfBounds("second " + second, () -> call.on(x, 1, 0, 4, second));
            }
            x.turn(1);
        }
    }

    /** With reports, and without any: that there is none is told last. */
    private static void strangeReportsAndEntries(EntryCall call) {
        strangeReports((x, table, level) -> call.on(x, table, level, 0, 0));
        for (boolean turned : TURNED_OR_NOT) {
            int rows = turned ? 5 : 4;
            int columns = turned ? 4 : 5;
            for (Pivotforge x : new Pivotforge[] {Houses.withTable1(turned), withReports(turned)}) {
                for (int first : Check.outside(0, rows)) {
                    Check.outOfBounds("first", () -> call.on(x, 1, 3, first, columns));
                    for (int second : Check.outside(0, columns)) {
                        Check.outOfBounds("second", () -> call.on(x, 1, 3, rows, second));
                        Check.outOfBounds("both", () -> call.on(x, 1, 3, first, second));
                    }
                }
            }
        }
    }

    /** None was built; another was built; it was dropped by each of what drops a report. */
    private static void noReport(ReportCall call) {
        Pivotforge x = new Pivotforge();
        for (int i = 0; i < 12; i++) {
            int table = i / 4;
            int level = i % 4;
            Check.illegalState("none was built", () -> call.on(x, table, level));
        }
        x.build(1, 2);
        Check.illegalState("of another level", () -> call.on(x, 1, 1));
        Check.illegalState("of another level", () -> call.on(x, 1, 3));
        Check.illegalState("of another table", () -> call.on(x, 0, 2));
        Check.illegalState("of another table", () -> call.on(x, 2, 2));
        answers("the one that is built", () -> call.on(x, 1, 2));
        x.sale(1, 3, 4, 0);
        Check.illegalState("dropped by a sale", () -> call.on(x, 1, 2));
        x.build(1, 2);
        x.takeBack(0);
        Check.illegalState("dropped by taking back", () -> call.on(x, 1, 2));
        x.build(1, 2);
        x.embargo(1, 0, 0, 3, 100);
        Check.illegalState("dropped by an embargo", () -> call.on(x, 1, 2));
        x.build(1, 2);
        x.lift(0);
        Check.illegalState("dropped by a lift", () -> call.on(x, 1, 2));
        x.embargo(1, 0, 0, 3, 100);
        x.build(1, 2);
        x.pass(100);
        Check.illegalState("dropped by an hour", () -> call.on(x, 1, 2));
        x.build(1, 2);
        answers("built again", () -> call.on(x, 1, 2));
    }

    // ---- promise 11

    private static void buildBuildsAndBuildsAnew() {
        Pivotforge x = new Pivotforge();
        for (int i = 0; i < 12; i++) {
            int table = i / 4;
            int level = i % 4;
            Check.due("build", 0, () -> x.build(table, level));
            Check.due("build anew", 0, () -> x.build(table, level));
            Check.due("it is built", true, () -> x.isBuilt(table, level));
        }
        Check.due("dropped", 0, x::dropped);
        x.sale(0, 0, 0, 1);
        Check.due("build a dropped one", 0, () -> x.build(0, 0));
        Check.due("what it read", 1, () -> x.read(0, 0));
    }

    private static void buildReturnsFrom0To30() {
        Pivotforge x = new Pivotforge();
        Check.due("no embargo", 0, () -> x.build(0, 0));
        x.embargo(0, 4, 5, 1, 1);
        Check.due("one", 4, () -> x.build(0, 0));
        Check.due("one, for its level", 0, () -> x.build(0, 1));
        x.pass(1);
        Check.due("one that has ended", 0, () -> x.build(0, 0));
        for (int i = 0; i < 30; i++) {
            x.embargo(0, i / 6, i % 6, 3, 1);
        }
        Check.due("all", 30, () -> x.build(0, 0));
        Check.due("all, for level 2", 30, () -> x.build(0, 2));
        Check.due("all, for level 3", 0, () -> x.build(0, 3));
        for (int i = 1; i < 7; i++) {
            x.lift(i);
        }
        Check.due("all but a row", 24, () -> x.build(0, 2));
        x.pass(1);
        Check.due("all have ended", 0, () -> x.build(0, 0));
    }

    // ---- promise 12

    /** Every set of the twelve reports. */
    private static void isBuiltTellsOfEachReport() {
        for (int reports = 0; reports < 4096; reports++) {
            int set = reports;
            Pivotforge x = new Pivotforge();
            for (int i = 0; i < 12; i++) {
                if ((set >> i & 1) != 0) {
                    x.build(i / 4, i % 4);
                }
            }
            Houses.dueReports("some built", x,
                    (table, level) -> (set >> table * 4 + level & 1) != 0);
            x.sale(1, 3, 4, 0);
            Houses.dueReports("those of table 1 dropped", x,
                    (table, level) -> table != 1 && (set >> table * 4 + level & 1) != 0);
        }
    }

    // ---- promise 13

    private static void shownShowsAllEntries() {
        for (boolean turned : TURNED_OR_NOT) {
            Pivotforge x = Houses.withTable1(turned);
            for (int i = 0; i < 20; i++) {
                x.sale(1, i / 5, i % 5, 1 << i % 10);
            }
            x.build(1, 0);
            for (int i = 0; i < 30; i++) {
                int first = turned ? i % 6 : i / 6;
                int second = turned ? i / 6 : i % 6;
                int number = x.sum(1, first, second);
                Check.due("shown(1, 0, " + first + ", " + second + ")", number,
                        () -> x.shown(1, 0, first, second));
            }
        }
    }

    /** The greatest and the least number that 120 sales make, and 0, are no HIDDEN. */
    private static void shownReturnsTheNumberOrHidden() {
        for (int amount : new int[] {-1000, 0, 1000}) {
            Pivotforge x = new Pivotforge();
            for (int i = 0; i < 120; i++) {
                x.sale(0, 3, 4, amount);
            }
            x.embargo(0, 3, 4, 2, 100);
            x.build(0, 1);
            x.build(0, 2);
            for (int[] e : new int[][] {{3, 4}, {3, 0}, {0, 4}, {0, 0}}) {
                Check.due("hidden", -1000000000, () -> x.shown(0, 1, e[0], e[1]));
            }
            Check.due("not hidden", 120 * amount, () -> x.shown(0, 1, 4, 5));
            Check.due("not hidden for level 2", 120 * amount, () -> x.shown(0, 2, 3, 4));
            Check.due("no sales, not hidden", 0, () -> x.shown(0, 1, 1, 1));
        }
    }

    // ---- promise 14

    private static void whyTellsOfAllEntries() {
        for (boolean turned : TURNED_OR_NOT) {
            Pivotforge x = Houses.withTable1(turned);
            x.embargo(1, 2, 3, 1, 100);
            x.build(1, 0);
            if (turned) {
                x.turn(1);
            }
            int row = turned ? 3 : 2;
            int column = turned ? 2 : 3;
            for (int i = 0; i < 30; i++) {
                int r = i / 6;
                int c = i % 6;
                boolean hidden = (r == row || r == 0) && (c == column || c == 0);
                boolean embargoed = r == row && c == column;
                Check.due("why(1, 0, " + r + ", " + c + ")", embargoed ? 1 : hidden ? 2 : 0,
                        () -> x.why(1, 0, r, c));
            }
        }
    }

    private static void whyReturnsOneOfFour() {
        Pivotforge x = new Pivotforge();
        x.embargo(0, 2, 3, 2, 100);
        x.embargo(0, 0, 0, 1, 100);
        whyOfTheCorners("no report", x, 0, 3, 3, 3, 3);
        Houses.buildAll(x);
        whyOfTheCorners("level 0: embargoed twice", x, 0, 1, 2, 2, 1);
        whyOfTheCorners("level 1: embargoed once, covered by what was embargoed", x, 1, 2, 2, 2, 1);
        whyOfTheCorners("level 2: shown", x, 2, 0, 0, 0, 0);
        x.pass(100);
        whyOfTheCorners("dropped", x, 1, 3, 3, 3, 3);
        whyOfTheCorners("not dropped", x, 3, 0, 0, 0, 0);
    }

    private static void whyOfTheCorners(String what, Pivotforge x, int level, int... due) {
        for (int i = 0; i < CORNERS.length; i++) {
            int[] e = CORNERS[i];
            Check.due(what, due[i], () -> x.why(0, level, e[0], e[1]));
        }
    }

    // ---- promise 15

    private static void readReturnsFrom0To120() {
        Pivotforge x = new Pivotforge();
        x.build(0, 0);
        Check.due("no sales", 0, () -> x.read(0, 0));
        for (int i = 0; i < 120; i++) {
            x.sale(0, 0, 0, i % 2);
        }
        x.build(0, 0);
        x.build(1, 0);
        Check.due("120, those of nothing among them", 120, () -> x.read(0, 0));
        Check.due("of another table", 0, () -> x.read(1, 0));
        x.takeBack(0);
        x.takeBack(119);
        x.embargo(0, 0, 0, 3, 1);
        x.build(0, 0);
        x.build(0, 3);
        Check.due("two taken back", 118, () -> x.read(0, 0));
        Check.due("two taken back, level 3", 118, () -> x.read(0, 3));
        for (int i = 1; i < 119; i++) {
            x.takeBack(i);
        }
        x.build(0, 0);
        Check.due("all taken back", 0, () -> x.read(0, 0));
    }

    // ---- promise 16

    private static void droppedCountsDropsAlone() {
        Pivotforge x = new Pivotforge();
        Check.due("in an empty house", 0, x::dropped);
        x.sale(0, 0, 0, 1);
        x.takeBack(0);
        x.embargo(0, 0, 0, 3, 1);
        x.lift(0);
        Check.due("where none was built", 0, x::dropped);
        x.build(0, 0);
        x.build(0, 0);
        Check.due("built anew", 0, x::dropped);
        x.sale(0, 0, 0, 1);
        Check.due("built twice, dropped once", 1, x::dropped);
        x.sale(0, 0, 0, 1);
        Check.due("dropped before", 1, x::dropped);
        x.build(0, 0);
        Check.due("built again after it was dropped", 1, x::dropped);
        Houses.buildAll(x);
        Check.due("of all, one built anew", 1, x::dropped);
        for (int table = 0; table < 3; table++) {
            x.sale(table, 0, 0, 1);
        }
        Check.due("all dropped", 13, x::dropped);
        for (int i = 0; i < 100; i++) {
            x.build(2, 3);
            x.sale(2, 3, 4, 1);
        }
        Check.due("the same one, a hundred times", 113, x::dropped);
    }

    /** All reports, with some of what they tell; table 1 is turned or not. */
    private static Pivotforge withReports(boolean turned) {
        Pivotforge x = Houses.withTable1(turned);
        x.sale(1, 2, 3, 40);
        x.embargo(1, 1, 2, 2, 9);
        Houses.buildAll(x);
        return x;
    }

    private static void answers(String what, Check.IntCall call) {
        try {
            call.run();
        } catch (RuntimeException e) {
            Check.fail(what + " threw " + e);
        }
    }
}
