/** Promises 7 to 10, sentence by sentence: the ends of all ranges, and what lies behind them. */
public final class BoundsOfEmbargoesTest {
    private static final int[] ENDS_OF_TABLES = {0, 2};
    private static final boolean[] TURNED_OR_NOT = {false, true};

    public static void main(String[] args) {
        promise7();
        promise8();
        promise9();
        promise10();
        Document.allQuoted("Promise 7", "Promise 8", "Promise 9", "Promise 10");
        Check.end();
    }

    private static void promise7() {
        Check.sentence(7, "Begins an embargo.", BoundsOfEmbargoesTest::embargoBeginsAtOnce);
        Check.sentence(7, "`table`: 0 to 2", BoundsOfEmbargoesTest::embargoTakesTables0To2);
        Check.sentence(7, "`first`: the row, or the column if the table is turned",
                BoundsOfEmbargoesTest::embargoTakesFirstAsRowOrColumn);
        Check.sentence(7, "`second`: the column, or the row if the table is turned",
                BoundsOfEmbargoesTest::embargoTakesSecondAsColumnOrRow);
        Check.sentence(7, "`level`: 1 to 3", BoundsOfEmbargoesTest::embargoTakesLevels1To3);
        Check.sentence(7, "`hours`: 1 to 100: in how many hours its hour comes",
                BoundsOfEmbargoesTest::embargoTakesHours1To100);
        Check.sentence(7, "Returns its number.",
                BoundsOfEmbargoesTest::embargoesAreNumbered0To39);
        Check.sentence(7, "Throws `IndexOutOfBoundsException` if there is no such table or entry",
                BoundsOfEmbargoesTest::embargoRefusesStrangeTablesAndEntries);
        Check.sentence(7, "Throws `IllegalArgumentException` if level or hours is out of range",
                BoundsOfEmbargoesTest::embargoRefusesStrangeLevelsAndHours);
        Check.sentence(7, "Throws `IllegalStateException` if there are 40",
                BoundsOfEmbargoesTest::embargoRefusesWhenThereAre40);
    }

    private static void promise8() {
        Check.sentence(8, "Lifts an embargo.", BoundsOfEmbargoesTest::liftEndsOneEmbargo);
        Check.sentence(8, "`embargo`: the number of an embargo",
                BoundsOfEmbargoesTest::liftTakesTheFirstAndTheLast);
        Check.sentence(8, "Returns how many hours it would have lasted still.",
                BoundsOfEmbargoesTest::liftReturns1To100);
        Check.sentence(8, "Throws `IndexOutOfBoundsException` if there is no such embargo",
                BoundsOfEmbargoesTest::liftRefusesStrangeNumbers);
        Check.sentence(8, "Throws `IllegalStateException` if it does not last",
                BoundsOfEmbargoesTest::liftRefusesWhatDoesNotLast);
    }

    private static void promise9() {
        Check.sentence(9, "Tells whether an entry is embargoed for a level of readers.",
                BoundsOfEmbargoesTest::isEmbargoedLooksAtTheGreaterLevel);
        Check.sentence(9, "`table`: 0 to 2", BoundsOfEmbargoesTest::isEmbargoedTakesTables0To2);
        Check.sentence(9, "`first`: the row, or the column if the table is turned",
                BoundsOfEmbargoesTest::isEmbargoedTakesFirstAsRowOrColumn);
        Check.sentence(9, "`second`: the column, or the row if the table is turned",
                BoundsOfEmbargoesTest::isEmbargoedTakesSecondAsColumnOrRow);
        Check.sentence(9, "`level`: 0 to 3", BoundsOfEmbargoesTest::isEmbargoedTakesLevels0To3);
        Check.sentence(9,
                "Throws `IndexOutOfBoundsException` if there is no such table, entry or level",
                BoundsOfEmbargoesTest::isEmbargoedRefusesStrangeTablesEntriesAndLevels);
    }

    private static void promise10() {
        Check.sentence(10, "Lets hours pass.", BoundsOfEmbargoesTest::passBringsTheHour);
        Check.sentence(10, "`hours`: 1 to 100", BoundsOfEmbargoesTest::passTakesHours1To100);
        Check.sentence(10, "Returns how many reports are dropped in them.",
                BoundsOfEmbargoesTest::passReturnsFrom0To9);
        Check.sentence(10, "Throws `IllegalArgumentException` if hours is out of range",
                BoundsOfEmbargoesTest::passRefusesStrangeHours);
        Check.sentence(10, "Throws `IllegalStateException` if it would be behind 10000",
                BoundsOfEmbargoesTest::passRefusesHoursBehind10000);
    }

    // ---- promise 7

    private static void embargoBeginsAtOnce() {
        for (int i = 0; i < 30; i++) {
            int row = i / 6;
            int column = i % 6;
            Pivotforge x = new Pivotforge();
            x.embargo(2, row, column, 1, 1);
            for (int k = 0; k < 90; k++) {
                int table = k / 30;
                int r = k % 30 / 6;
                int c = k % 6;
                Check.due("isEmbargoed(" + table + ", " + r + ", " + c + ")",
                        table == 2 && r == row && c == column,
                        () -> x.isEmbargoed(table, r, c, 0));
            }
        }
    }

    private static void embargoTakesTables0To2() {
        Pivotforge x = new Pivotforge();
        int number = 0;
        for (int table : ENDS_OF_TABLES) {
            int due = number++;
            Check.due("table " + table, due, () -> x.embargo(table, 0, 0, 1, 1));
        }
        for (int table : Check.outside(0, 2)) {
            Check.outOfBounds("table " + table, () -> x.embargo(table, 0, 0, 1, 1));
        }
        Check.due("table 1 has none", false, () -> x.isEmbargoed(1, 0, 0, 0));
    }

    private static void embargoTakesFirstAsRowOrColumn() {
        for (boolean turned : TURNED_OR_NOT) {
            Pivotforge x = Houses.withTable1(turned);
            int greatest = turned ? 5 : 4;
            Check.due("first 0", 0, () -> x.embargo(1, 0, 1, 1, 1));
            Check.due("first " + greatest, 1, () -> x.embargo(1, greatest, 1, 1, 1));
            for (int first : Check.outside(0, greatest)) {
                Check.outOfBounds("first " + first, () -> x.embargo(1, first, 1, 1, 1));
            }
            if (turned) {
                x.turn(1);
            }
            Check.due("the entry", true, () -> turned ? x.isEmbargoed(1, 1, 5, 0)
                    : x.isEmbargoed(1, 4, 1, 0));
        }
    }

    private static void embargoTakesSecondAsColumnOrRow() {
        for (boolean turned : TURNED_OR_NOT) {
            Pivotforge x = Houses.withTable1(turned);
            int greatest = turned ? 4 : 5;
            Check.due("second 0", 0, () -> x.embargo(1, 1, 0, 1, 1));
            Check.due("second " + greatest, 1, () -> x.embargo(1, 1, greatest, 1, 1));
            for (int second : Check.outside(0, greatest)) {
                Check.outOfBounds("second " + second, () -> x.embargo(1, 1, second, 1, 1));
            }
            if (turned) {
                x.turn(1);
            }
            Check.due("the entry", true, () -> turned ? x.isEmbargoed(1, 4, 1, 0)
                    : x.isEmbargoed(1, 1, 5, 0));
        }
    }

    private static void embargoTakesLevels1To3() {
        Pivotforge x = new Pivotforge();
        for (int level = 1; level <= 3; level++) {
            int l = level;
            Check.due("level " + l, l - 1, () -> x.embargo(0, 0, l, l, 1));
            Check.due("below it", true, () -> x.isEmbargoed(0, 0, l, l - 1));
            Check.due("at it", false, () -> x.isEmbargoed(0, 0, l, l));
        }
        for (int level : Check.outside(1, 3)) {
            Check.illegalArgument("level " + level, () -> x.embargo(0, 0, 0, level, 1));
        }
    }

    /** It lasts in the hour before its own, and in its own no more. */
    private static void embargoTakesHours1To100() {
        for (int hours : new int[] {1, 2, 50, 99, 100}) {
            for (int now : new int[] {0, 7, 9900}) {
                Pivotforge x = Houses.atHour(now);
                Check.due("hours " + hours, 0, () -> x.embargo(0, 4, 5, 1, hours));
                if (hours > 1) {
                    x.pass(hours - 1);
                }
                Check.due("before its hour", true, () -> x.isEmbargoed(0, 4, 5, 0));
                x.pass(1);
                Check.due("in its hour", false, () -> x.isEmbargoed(0, 4, 5, 0));
            }
        }
        Pivotforge y = new Pivotforge();
        for (int hours : Check.outside(1, 100)) {
            Check.illegalArgument("hours " + hours, () -> y.embargo(0, 0, 0, 1, hours));
        }
    }

    private static void embargoesAreNumbered0To39() {
        Pivotforge x = new Pivotforge();
        for (int i = 0; i < 40; i++) {
            int number = i;
            Check.due("embargo", number,
                    () -> x.embargo(number % 3, number % 5, number % 6, 1 + number % 3, 100));
            Check.outOfBounds("a refused one takes no number", () -> x.embargo(3, 0, 0, 1, 1));
            Check.illegalArgument("a refused one takes no number",
                    () -> x.embargo(0, 0, 0, 0, 1));
            if (number % 5 == 0) {
                x.lift(number);
                x.pass(3);
            }
        }
    }

    private static void embargoRefusesStrangeTablesAndEntries() {
        for (boolean turned : TURNED_OR_NOT) {
            Pivotforge x = Houses.withTable1(turned);
            int rows = turned ? 5 : 4;
            int columns = turned ? 4 : 5;
            for (int level : new int[] {1, 4}) {
                for (int table : Check.outside(0, 2)) {
                    Check.outOfBounds("table", () -> x.embargo(table, 0, 0, level, 1));
                }
                for (int first : Check.outside(0, rows)) {
                    Check.outOfBounds("first", () -> x.embargo(1, first, columns, level, 1));
                }
                for (int second : Check.outside(0, columns)) {
                    Check.outOfBounds("second", () -> x.embargo(1, rows, second, level, 1));
                }
            }
            Check.due("the first that is taken", 0, () -> x.embargo(1, rows, columns, 1, 1));
        }
    }

    private static void embargoRefusesStrangeLevelsAndHours() {
        for (int count : new int[] {0, 39, 40}) {
            Pivotforge x = Houses.withEmbargoes(count);
            for (int level : Check.outside(1, 3)) {
                Check.illegalArgument("level", () -> x.embargo(0, 4, 5, level, 100));
                for (int hours : Check.outside(1, 100)) {
                    Check.illegalArgument("hours", () -> x.embargo(0, 4, 5, 3, hours));
                    Check.illegalArgument("both", () -> x.embargo(0, 4, 5, level, hours));
                }
            }
            Check.due("the entry", false, () -> x.isEmbargoed(0, 4, 5, 0));
        }
    }

    /** Those that were lifted and those whose hour has come are among the 40. */
    private static void embargoRefusesWhenThereAre40() {
        Pivotforge x = Houses.withEmbargoes(39);
        Check.due("the 40th", 39, () -> x.embargo(2, 4, 5, 3, 100));
        Check.illegalState("one more", () -> x.embargo(0, 0, 0, 1, 1));
        Check.illegalState("one more of another table", () -> x.embargo(1, 4, 5, 3, 100));
        x.lift(0);
        x.lift(39);
        Check.illegalState("one more when two are lifted", () -> x.embargo(0, 0, 0, 1, 1));
        x.pass(100);
        Check.illegalState("one more when none lasts", () -> x.embargo(0, 0, 0, 1, 1));
        Check.due("the entry", false, () -> x.isEmbargoed(0, 0, 0, 0));
        Pivotforge y = Houses.withEmbargoes(39);
        for (int i = 0; i < 39; i++) {
            y.lift(i);
        }
        Check.due("the 40th when all are lifted", 39, () -> y.embargo(0, 0, 0, 1, 1));
        Check.illegalState("one more", () -> y.embargo(0, 0, 0, 1, 1));
        Pivotforge z = Houses.withEmbargoes(39);
        z.pass(100);
        Check.due("the 40th when all have ended", 39, () -> z.embargo(0, 0, 0, 1, 1));
        Check.illegalState("one more", () -> z.embargo(0, 0, 0, 1, 1));
    }

    // ---- promise 8

    private static void liftEndsOneEmbargo() {
        Pivotforge x = new Pivotforge();
        x.embargo(1, 4, 5, 3, 10);
        x.embargo(1, 4, 5, 2, 10);
        x.embargo(1, 4, 4, 3, 10);
        x.embargo(2, 4, 5, 3, 10);
        x.lift(0);
        Check.due("by the lifted one", false, () -> x.isEmbargoed(1, 4, 5, 2));
        Check.due("by another of the entry", true, () -> x.isEmbargoed(1, 4, 5, 1));
        Check.due("of another entry", true, () -> x.isEmbargoed(1, 4, 4, 2));
        Check.due("of another table", true, () -> x.isEmbargoed(2, 4, 5, 2));
        x.lift(1);
        Check.due("by none", false, () -> x.isEmbargoed(1, 4, 5, 0));
    }

    private static void liftTakesTheFirstAndTheLast() {
        for (int count : new int[] {1, 2, 39, 40}) {
            Pivotforge x = Houses.withEmbargoes(count);
            Check.due("the last of " + count, 100, () -> x.lift(count - 1));
            if (count > 1) {
                Check.due("the first of " + count, 100, () -> x.lift(0));
            }
            Check.due("the entry", count > 2, () -> x.isEmbargoed(0, 0, 0, 0));
        }
    }

    private static void liftReturns1To100() {
        Pivotforge x = new Pivotforge();
        x.embargo(0, 0, 0, 1, 100);
        x.embargo(0, 0, 0, 1, 100);
        x.embargo(0, 0, 0, 1, 1);
        Check.due("at once", 100, () -> x.lift(0));
        Check.due("at once", 1, () -> x.lift(2));
        x.pass(99);
        Check.due("in its last hour", 1, () -> x.lift(1));
        Pivotforge y = Houses.atHour(9999);
        y.embargo(0, 0, 0, 1, 1);
        y.embargo(0, 0, 0, 1, 2);
        y.embargo(0, 0, 0, 1, 100);
        Check.due("before hour 10000", 1, () -> y.lift(0));
        y.pass(1);
        Check.due("in hour 10000", 1, () -> y.lift(1));
        Check.due("in hour 10000", 99, () -> y.lift(2));
        y.embargo(0, 0, 0, 1, 100);
        Check.due("in hour 10000", 100, () -> y.lift(3));
    }

    private static void liftRefusesStrangeNumbers() {
        for (int count : new int[] {0, 1, 39, 40}) {
            Pivotforge x = Houses.withEmbargoes(count);
            for (int embargo : Check.outside(0, count - 1)) {
                Check.outOfBounds("lift(" + embargo + ") of " + count, () -> x.lift(embargo));
            }
            Check.outOfBounds("lift(40) of " + count, () -> x.lift(40));
            Check.due("the entry", count > 0, () -> x.isEmbargoed(0, 0, 0, 0));
        }
        Pivotforge y = Houses.withEmbargoes(40);
        Check.illegalState("an embargo that is refused", () -> y.embargo(0, 0, 0, 1, 1));
        Check.outOfBounds("is none", () -> y.lift(40));
    }

    /** Lifted before, or in its hour, or behind it. */
    private static void liftRefusesWhatDoesNotLast() {
        Pivotforge x = new Pivotforge();
        x.embargo(0, 0, 0, 1, 100);
        x.embargo(0, 0, 0, 1, 5);
        x.lift(0);
        Check.illegalState("lifted before", () -> x.lift(0));
        x.pass(5);
        Check.illegalState("in its hour", () -> x.lift(1));
        Check.illegalState("lifted before", () -> x.lift(0));
        x.pass(1);
        Check.illegalState("behind its hour", () -> x.lift(1));
        x.embargo(0, 0, 0, 1, 100);
        x.pass(99);
        Check.illegalState("lifted, behind its hour", () -> x.lift(0));
        Check.due("a later one", 1, () -> x.lift(2));
        Pivotforge y = Houses.atHour(9999);
        y.embargo(0, 0, 0, 1, 1);
        y.pass(1);
        Check.illegalState("its hour is 10000", () -> y.lift(0));
    }

    // ---- promise 9

    private static void isEmbargoedLooksAtTheGreaterLevel() {
        for (int level = 1; level <= 3; level++) {
            Pivotforge x = new Pivotforge();
            x.embargo(0, 4, 5, level, 100);
            for (int readers = 0; readers <= 3; readers++) {
                int r = readers;
                Check.due("level " + level + " for " + r, r < level,
                        () -> x.isEmbargoed(0, 4, 5, r));
            }
        }
    }

    private static void isEmbargoedTakesTables0To2() {
        Pivotforge x = new Pivotforge();
        x.embargo(0, 0, 0, 1, 1);
        x.embargo(2, 0, 0, 1, 1);
        Check.due("table 0", true, () -> x.isEmbargoed(0, 0, 0, 0));
        Check.due("table 1", false, () -> x.isEmbargoed(1, 0, 0, 0));
        Check.due("table 2", true, () -> x.isEmbargoed(2, 0, 0, 0));
        for (int table : Check.outside(0, 2)) {
            Check.outOfBounds("table " + table, () -> x.isEmbargoed(table, 0, 0, 0));
        }
    }

    private static void isEmbargoedTakesFirstAsRowOrColumn() {
        Pivotforge x = new Pivotforge();
        x.embargo(1, 0, 3, 1, 1);
        x.embargo(1, 4, 3, 1, 1);
        x.embargo(1, 3, 5, 1, 1);
        Check.due("the first row", true, () -> x.isEmbargoed(1, 0, 3, 0));
        Check.due("the last row", true, () -> x.isEmbargoed(1, 4, 3, 0));
        strangeFirst(x, 4);
        x.turn(1);
        Check.due("the first column", false, () -> x.isEmbargoed(1, 0, 3, 0));
        Check.due("the last column", true, () -> x.isEmbargoed(1, 5, 3, 0));
        strangeFirst(x, 5);
        x.turn(1);
        strangeFirst(x, 4);
    }

    private static void strangeFirst(Pivotforge x, int greatest) {
        for (int first : Check.outside(0, greatest)) {
            Check.outOfBounds("first " + first, () -> x.isEmbargoed(1, first, 0, 0));
        }
    }

    private static void isEmbargoedTakesSecondAsColumnOrRow() {
        Pivotforge x = new Pivotforge();
        x.embargo(1, 3, 0, 1, 1);
        x.embargo(1, 3, 5, 1, 1);
        x.embargo(1, 4, 3, 1, 1);
        Check.due("the first column", true, () -> x.isEmbargoed(1, 3, 0, 0));
        Check.due("the last column", true, () -> x.isEmbargoed(1, 3, 5, 0));
        strangeSecond(x, 5);
        x.turn(1);
        Check.due("the first row", false, () -> x.isEmbargoed(1, 3, 0, 0));
        Check.due("the last row", true, () -> x.isEmbargoed(1, 3, 4, 0));
        strangeSecond(x, 4);
        x.turn(1);
        strangeSecond(x, 5);
    }

    private static void strangeSecond(Pivotforge x, int greatest) {
        for (int second : Check.outside(0, greatest)) {
            Check.outOfBounds("second " + second, () -> x.isEmbargoed(1, 0, second, 0));
        }
    }

    /** No embargo has a level that is greater than 3. */
    private static void isEmbargoedTakesLevels0To3() {
        Pivotforge x = new Pivotforge();
        for (int i = 0; i < 30; i++) {
            x.embargo(0, i / 6, i % 6, 3, 100);
        }
        for (int i = 0; i < 30; i++) {
            int row = i / 6;
            int column = i % 6;
            Check.due("level 0", true, () -> x.isEmbargoed(0, row, column, 0));
            Check.due("level 2", true, () -> x.isEmbargoed(0, row, column, 2));
            Check.due("level 3", false, () -> x.isEmbargoed(0, row, column, 3));
        }
        for (int level : Check.outside(0, 3)) {
            Check.outOfBounds("level " + level, () -> x.isEmbargoed(0, 0, 0, level));
        }
    }

    private static void isEmbargoedRefusesStrangeTablesEntriesAndLevels() {
        for (boolean turned : TURNED_OR_NOT) {
            Pivotforge x = Houses.withTable1(turned);
            int rows = turned ? 5 : 4;
            int columns = turned ? 4 : 5;
            Check.due("the last", false, () -> x.isEmbargoed(1, rows, columns, 3));
            for (int table : Check.outside(0, 2)) {
                Check.outOfBounds("table", () -> x.isEmbargoed(table, 0, 0, 0));
            }
            for (int first : Check.outside(0, rows)) {
                Check.outOfBounds("first", () -> x.isEmbargoed(1, first, columns, 0));
            }
            for (int second : Check.outside(0, columns)) {
                Check.outOfBounds("second", () -> x.isEmbargoed(1, rows, second, 0));
            }
            for (int level : Check.outside(0, 3)) {
                Check.outOfBounds("level", () -> x.isEmbargoed(1, rows, columns, level));
                Check.outOfBounds("all", () -> x.isEmbargoed(3, -1, 6, level));
            }
        }
    }

    // ---- promise 10

    /** Of 30 embargoes those end whose hour comes, whether at the end or between. */
    private static void passBringsTheHour() {
        for (int hours : new int[] {1, 2, 39, 40, 41, 100}) {
            Pivotforge x = new Pivotforge();
            for (int i = 0; i < 30; i++) {
                x.embargo(0, i / 6, i % 6, 1, 11 + i);
            }
            x.pass(hours);
            for (int i = 0; i < 30; i++) {
                int row = i / 6;
                int column = i % 6;
                Check.due("after " + hours + ", one of " + (11 + i), 11 + i > hours,
                        () -> x.isEmbargoed(0, row, column, 0));
            }
        }
    }

    private static void passTakesHours1To100() {
        Pivotforge x = new Pivotforge();
        x.embargo(0, 0, 0, 1, 100);
        x.embargo(0, 0, 1, 1, 100);
        Check.due("pass(1)", 0, () -> x.pass(1));
        Check.due("the hours left", 99, () -> x.lift(0));
        x.build(0, 0);
        Check.due("pass(100)", 1, () -> x.pass(100));
        for (int hours : Check.outside(1, 100)) {
            Check.illegalArgument("pass(" + hours + ")", () -> x.pass(hours));
        }
    }

    private static void passReturnsFrom0To9() {
        Pivotforge x = new Pivotforge();
        Check.due("in an empty house", 0, () -> x.pass(1));
        Houses.buildAll(x);
        Check.due("without embargoes", 0, () -> x.pass(100));
        for (int i = 0; i < 36; i++) {
            x.embargo(i % 3, i / 6 % 5, i % 6, 3, 10 + i);
        }
        Check.due("dropped by embargoes", 9, x::dropped);
        Check.due("without reports that can be dropped", 0, () -> x.pass(10));
        Houses.buildAll(x);
        Check.due("each is dropped once", 9, () -> x.pass(100));
        Houses.dueReports("after it", x, (table, level) -> level == 3);
        Check.due("when all embargoes have ended", 0, () -> x.pass(100));
        Check.due("dropped in all", 18, x::dropped);
    }

    private static void passRefusesStrangeHours() {
        for (int now : new int[] {0, 9950, 9999, 10000}) {
            Pivotforge x = Houses.atHour(now);
            x.embargo(0, 0, 0, 1, 100);
            for (int hours : Check.outside(1, 100)) {
                Check.illegalArgument("pass(" + hours + ") at " + now, () -> x.pass(hours));
            }
            Check.due("no hour has passed", 100, () -> x.lift(0));
        }
    }

    private static void passRefusesHoursBehind10000() {
        for (int left : new int[] {0, 1, 2, 50, 98, 99}) {
            Pivotforge x = Houses.atHour(10000 - left);
            Check.illegalState("pass by one hour too many", () -> x.pass(left + 1));
            Check.illegalState("pass(100)", () -> x.pass(100));
            if (left > 0) {
                Check.due("pass to 10000", 0, () -> x.pass(left));
            }
            Check.illegalState("pass from 10000", () -> x.pass(1));
        }
        Pivotforge y = Houses.atHour(9900);
        Check.due("pass(100) to 10000", 0, () -> y.pass(100));
        Check.illegalState("pass from 10000", () -> y.pass(1));
        Check.illegalState("pass from 10000", () -> y.pass(100));
    }
}
