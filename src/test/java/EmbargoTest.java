/** Promises 7 to 10: embargoes and hours. */
public final class EmbargoTest {
    private static final int[][] STRANGE_ENTRIES = {{-1, 0, 0}, {3, 0, 0}, {0, -1, 0}, {0, 5, 0},
        {0, 0, -1}, {0, 0, 6}, {1, -1, 0}, {1, 6, 0}, {1, 0, -1}, {1, 0, 5},
        {Integer.MIN_VALUE, 0, 0}, {0, Integer.MAX_VALUE, 0}, {0, 0, Integer.MIN_VALUE}};

    public static void main(String[] args) {
        embargoesAreNumbered();
        embargoRefusesWrongInputs();
        embargoNamesItsExceptionsInOrder();
        thereAreAtMost40Embargoes();
        aRefusedEmbargoChangesNothing();
        anEmbargoFollowsTheTurn();
        anEmbargoDropsReportsBelowItsLevel();
        liftReturnsTheHoursLeft();
        liftRefusesWrongInputs();
        liftDropsReportsBelowItsLevel();
        isEmbargoedLooksAtLevels();
        isEmbargoedLooksAtAllEmbargoesOfAnEntry();
        isEmbargoedRefusesWrongInputs();
        passEndsEmbargoes();
        passCountsDroppedReports();
        passRefusesWrongInputs();
        passStopsAt10000();
        anHourBehind10000MayBeTold();
        Check.end();
    }

    private static void embargoesAreNumbered() {
        Pivotforge x = new Pivotforge();
        Check.due("embargo of an entry", 0, () -> x.embargo(0, 0, 0, 1, 1));
        Check.due("embargo of all", 1, () -> x.embargo(2, 4, 5, 3, 100));
        Check.due("embargo of the same entry", 2, () -> x.embargo(0, 0, 0, 1, 1));
        x.lift(2);
        Check.due("embargo after one was lifted", 3, () -> x.embargo(0, 0, 0, 1, 1));
    }

    private static void embargoRefusesWrongInputs() {
        Pivotforge x = new Pivotforge();
        x.turn(1);
        for (int[] s : STRANGE_ENTRIES) {
            Check.outOfBounds("embargo, entry", () -> x.embargo(s[0], s[1], s[2], 1, 1));
        }
        for (int level : new int[] {-1, 0, 4, Integer.MIN_VALUE, Integer.MAX_VALUE}) {
            Check.illegalArgument("embargo, level", () -> x.embargo(0, 0, 0, level, 1));
        }
        for (int hours : new int[] {-1, 0, 101, Integer.MIN_VALUE, Integer.MAX_VALUE}) {
            Check.illegalArgument("embargo, hours", () -> x.embargo(0, 0, 0, 1, hours));
        }
        Check.due("no number is taken", 0, () -> x.embargo(0, 0, 0, 1, 1));
    }

    private static void embargoNamesItsExceptionsInOrder() {
        Pivotforge x = withEmbargoes(40);
        Check.outOfBounds("embargo, table and all", () -> x.embargo(3, 0, 0, 0, 0));
        Check.outOfBounds("embargo, row and all", () -> x.embargo(0, 5, 0, 4, 0));
        Check.outOfBounds("embargo, column and all", () -> x.embargo(0, 0, 6, 0, 101));
        Check.illegalArgument("embargo, level and count", () -> x.embargo(0, 0, 0, 4, 1));
        Check.illegalArgument("embargo, hours and count", () -> x.embargo(0, 0, 0, 1, 101));
        Check.illegalState("embargo, count", () -> x.embargo(0, 0, 0, 1, 1));
    }

    private static void thereAreAtMost40Embargoes() {
        Pivotforge x = withEmbargoes(39);
        x.lift(3);
        Check.due("the last embargo", 39, () -> x.embargo(1, 2, 2, 3, 100));
        Check.illegalState("one embargo more", () -> x.embargo(1, 2, 2, 3, 100));
        x.pass(100);
        Check.illegalState("one embargo more, when none lasts", () -> x.embargo(1, 2, 2, 3, 100));
        Check.outOfBounds("lift of the one that did not begin", () -> x.lift(40));
    }

    private static void aRefusedEmbargoChangesNothing() {
        Pivotforge x = withEmbargoes(40);
        x.build(0, 0);
        Check.outOfBounds("refused embargo", () -> x.embargo(0, 5, 5, 1, 1));
        Check.illegalArgument("refused embargo", () -> x.embargo(0, 3, 3, 4, 1));
        Check.illegalState("refused embargo", () -> x.embargo(0, 3, 3, 1, 1));
        Check.due("the entry", false, () -> x.isEmbargoed(0, 3, 3, 0));
        Check.due("the report stays", true, () -> x.isBuilt(0, 0));
        Check.due("nothing is dropped", 0, x::dropped);
    }

    private static void anEmbargoFollowsTheTurn() {
        Pivotforge x = new Pivotforge();
        x.turn(0);
        x.embargo(0, 3, 1, 2, 10);
        Check.due("turned", true, () -> x.isEmbargoed(0, 3, 1, 0));
        Check.due("turned", false, () -> x.isEmbargoed(0, 1, 3, 0));
        x.turn(0);
        Check.due("turned back", true, () -> x.isEmbargoed(0, 1, 3, 0));
        Check.due("turned back", false, () -> x.isEmbargoed(0, 3, 1, 0));
        Check.due("another table", false, () -> x.isEmbargoed(1, 1, 3, 0));
    }

    private static void anEmbargoDropsReportsBelowItsLevel() {
        for (int level = 1; level <= 3; level++) {
            int l = level;
            Pivotforge x = withReports();
            x.embargo(1, 2, 2, l, 5);
            Check.due("dropped by an embargo", l, x::dropped);
            reportsStandFrom(x, l);
            x.build(1, 0);
            x.embargo(1, 2, 2, l, 5);
            Check.due("dropped by an embargo of the same entry", l + 1, x::dropped);
        }
    }

    private static void liftReturnsTheHoursLeft() {
        Pivotforge x = new Pivotforge();
        x.embargo(0, 0, 0, 1, 100);
        x.embargo(0, 0, 1, 1, 7);
        x.embargo(0, 0, 2, 1, 7);
        Check.due("lift at once", 100, () -> x.lift(0));
        x.pass(5);
        x.embargo(0, 0, 3, 1, 9);
        Check.due("lift", 2, () -> x.lift(1));
        x.pass(1);
        Check.due("lift in its last hour", 1, () -> x.lift(2));
        Check.due("lift of a later one", 8, () -> x.lift(3));
        Check.due("no more embargoed", false, () -> x.isEmbargoed(0, 0, 3, 0));
    }

    private static void liftRefusesWrongInputs() {
        Pivotforge x = new Pivotforge();
        x.embargo(0, 0, 0, 2, 10);
        x.embargo(0, 0, 1, 2, 3);
        for (int embargo : new int[] {-1, 2, 39, 40, Integer.MIN_VALUE, Integer.MAX_VALUE}) {
            Check.outOfBounds("lift", () -> x.lift(embargo));
        }
        x.lift(0);
        x.pass(3);
        x.build(0, 0);
        Check.illegalState("lift again", () -> x.lift(0));
        Check.illegalState("lift when its hour has come", () -> x.lift(1));
        Check.due("the report stays", true, () -> x.isBuilt(0, 0));
        x.pass(10);
        Check.due("the lifted one's hour is nothing", true, () -> x.isBuilt(0, 0));
    }

    private static void liftDropsReportsBelowItsLevel() {
        for (int level = 1; level <= 3; level++) {
            int l = level;
            Pivotforge x = new Pivotforge();
            x.embargo(1, 2, 2, l, 5);
            x.embargo(1, 2, 2, 3, 50);
            buildAll(x);
            x.lift(0);
            Check.due("dropped by a lift", l, x::dropped);
            reportsStandFrom(x, l);
        }
    }

    private static void isEmbargoedLooksAtLevels() {
        for (int level = 1; level <= 3; level++) {
            Pivotforge x = new Pivotforge();
            x.embargo(0, 4, 5, level, 1);
            for (int reader = 0; reader <= 3; reader++) {
                int r = reader;
                Check.due("isEmbargoed", level > r, () -> x.isEmbargoed(0, 4, 5, r));
                Check.due("isEmbargoed elsewhere", false, () -> x.isEmbargoed(0, 4, 4, r));
            }
        }
    }

    private static void isEmbargoedLooksAtAllEmbargoesOfAnEntry() {
        Pivotforge x = new Pivotforge();
        x.embargo(0, 1, 1, 3, 2);
        x.embargo(0, 1, 1, 1, 9);
        Check.due("the greater level counts", true, () -> x.isEmbargoed(0, 1, 1, 2));
        x.pass(2);
        Check.due("the smaller one lasts", false, () -> x.isEmbargoed(0, 1, 1, 2));
        Check.due("the smaller one lasts", true, () -> x.isEmbargoed(0, 1, 1, 0));
        x.lift(1);
        Check.due("none lasts", false, () -> x.isEmbargoed(0, 1, 1, 0));
    }

    private static void isEmbargoedRefusesWrongInputs() {
        Pivotforge x = new Pivotforge();
        x.turn(1);
        for (int[] s : STRANGE_ENTRIES) {
            Check.outOfBounds("isEmbargoed, entry", () -> x.isEmbargoed(s[0], s[1], s[2], 0));
        }
        for (int level : new int[] {-1, 4, Integer.MIN_VALUE, Integer.MAX_VALUE}) {
            Check.outOfBounds("isEmbargoed, level", () -> x.isEmbargoed(0, 0, 0, level));
        }
    }

    private static void passEndsEmbargoes() {
        Pivotforge x = new Pivotforge();
        x.embargo(0, 2, 3, 1, 3);
        x.pass(2);
        Check.due("lasts before its hour", true, () -> x.isEmbargoed(0, 2, 3, 0));
        x.pass(1);
        Check.due("ends with its hour", false, () -> x.isEmbargoed(0, 2, 3, 0));
        x.embargo(0, 2, 3, 1, 3);
        x.pass(100);
        Check.due("ends when its hour is passed by", false, () -> x.isEmbargoed(0, 2, 3, 0));
    }

    private static void passCountsDroppedReports() {
        Pivotforge x = new Pivotforge();
        x.embargo(1, 0, 0, 1, 3);
        x.embargo(1, 0, 0, 2, 3);
        x.embargo(1, 1, 1, 3, 8);
        x.embargo(2, 1, 1, 1, 4);
        x.embargo(0, 1, 1, 3, 4);
        x.lift(4);
        buildAll(x);
        Check.due("pass before any hour", 0, () -> x.pass(2));
        Check.due("pass with reports of one table", 2, () -> x.pass(1));
        reportsStandFrom(x, 2);
        Check.due("pass with reports of two tables", 2, () -> x.pass(5));
        Check.due("dropped in all", 4, x::dropped);
        Check.due("another table's report", false, () -> x.isBuilt(2, 0));
        Check.due("another table's report", true, () -> x.isBuilt(2, 1));
        Check.due("a lifted embargo's table", true, () -> x.isBuilt(0, 0));
        Check.due("pass with no more embargoes", 0, () -> x.pass(100));
    }

    private static void passRefusesWrongInputs() {
        Pivotforge x = new Pivotforge();
        x.embargo(0, 0, 0, 1, 1);
        for (int hours : new int[] {-1, 0, 101, Integer.MIN_VALUE, Integer.MAX_VALUE}) {
            Check.illegalArgument("pass", () -> x.pass(hours));
        }
        Check.due("no hour has passed", 1, () -> x.lift(0));
    }

    private static void passStopsAt10000() {
        Pivotforge x = new Pivotforge();
        for (int i = 0; i < 99; i++) {
            x.pass(100);
        }
        x.pass(99);
        x.embargo(0, 0, 0, 1, 1);
        x.build(0, 0);
        Check.illegalState("pass behind 10000", () -> x.pass(2));
        Check.illegalState("pass far behind 10000", () -> x.pass(100));
        Check.illegalArgument("pass, hours and the end", () -> x.pass(101));
        Check.due("the report stays", true, () -> x.isBuilt(0, 0));
        Check.due("pass to 10000", 1, () -> x.pass(1));
        Check.illegalState("pass from 10000", () -> x.pass(1));
        Check.illegalArgument("pass, hours and the end", () -> x.pass(0));
    }

    private static void anHourBehind10000MayBeTold() {
        Pivotforge x = new Pivotforge();
        for (int i = 0; i < 100; i++) {
            x.pass(100);
        }
        Check.due("embargo at the end", 0, () -> x.embargo(0, 0, 0, 1, 100));
        Check.due("it lasts", true, () -> x.isEmbargoed(0, 0, 0, 0));
        Check.due("lift at the end", 100, () -> x.lift(0));
    }

    private static Pivotforge withEmbargoes(int count) {
        Pivotforge x = new Pivotforge();
        for (int i = 0; i < count; i++) {
            int number = i;
            Check.due("embargo", number, () -> x.embargo(0, 0, 0, 1, 100));
        }
        return x;
    }

    private static Pivotforge withReports() {
        Pivotforge x = new Pivotforge();
        buildAll(x);
        return x;
    }

    private static void buildAll(Pivotforge x) {
        for (int table = 0; table < 3; table++) {
            for (int level = 0; level < 4; level++) {
                x.build(table, level);
            }
        }
    }

    /** Table 1 has reports from that level on, and none below; tables 0 and 2 have all. */
    private static void reportsStandFrom(Pivotforge x, int level) {
        for (int i = 0; i < 4; i++) {
            int reader = i;
            Check.due("a report of table 1", reader >= level, () -> x.isBuilt(1, reader));
            Check.due("a report of table 0", true, () -> x.isBuilt(0, reader));
            Check.due("a report of table 2", true, () -> x.isBuilt(2, reader));
        }
    }
}
