import java.util.List;

/** What stands ahead of the promises, sentence by sentence: its ends, and what lies behind them. */
public final class BoundsOfTermsTest {
    private static final boolean[] TURNED_OR_NOT = {false, true};

    public static void main(String[] args) {
        callsAndConstants();
        tables();
        reports();
        desk();
        Document.allQuoted("Terms", "Tables", "Reports", "The desk");
        Check.end();
    }

    private static void callsAndConstants() {
        Check.sentence(0, "An object is used for at most 512 calls after it has been made; "
                + "what later calls answer is free.", BoundsOfTermsTest::all512CallsAnswer);
        Check.sentence(0, "`NONE = -1`: None.", BoundsOfTermsTest::noneIsMinus1);
        Check.sentence(0, "`HIDDEN = -1000000000`: What a report shows of a hidden entry.",
                BoundsOfTermsTest::hiddenIsFarBelowAllNumbers);
        Check.sentence(0, "`SHOWN = 0, EMBARGOED = 1, COVERED = 2, UNBUILT = 3`: What an entry of "
                + "a report is: it is shown, embargoed, covered; or there is no report.",
                BoundsOfTermsTest::whatAnEntryIs);
        Check.sentence(0, "Sales, embargoes and reports are told, hours pass; "
                + "sums, what is shown, and what can be found are asked.",
                BoundsOfTermsTest::askingChangesNothing);
        Check.sentence(0, "A call that throws an exception changes nothing; if several exceptions "
                + "apply, the one that its throws clause names first is thrown.",
                BoundsOfTermsTest::theFirstNamedExceptionIsThrown);
        Check.sentence(0, "Hours are 0 to 10000; the hour of now is 0 at first.",
                BoundsOfTermsTest::hoursAre0To10000);
        Check.sentence(0, "Hours are 0 to 10000; the hour of now is 0 at first.",
                BoundsOfTermsTest::allElseGoesOnInHour10000);
        Check.sentence(0, "Tables are 0 to 2, levels of readers 0 to 3.",
                BoundsOfTermsTest::tablesAre0To2AndLevels0To3);
    }

    private static void tables() {
        Check.sentence(0, "A table has the rows 0 to 3, one for each place, and the columns 0 to "
                + "4, one for each sort of goods; the row 4 and the column 5 are totals.",
                BoundsOfTermsTest::noSaleIsOfATotal);
        Check.sentence(0, "An entry is a row and a column.", BoundsOfTermsTest::entriesAre30);
        Check.sentence(0, "Sales are numbered from 0, up to 120; a sale is of a table, a place, a "
                + "sort of goods, and an amount; it may be taken back, for good, and is none any "
                + "more.", BoundsOfTermsTest::aSaleThatIsTakenBackIsNone);
        Check.sentence(0, "The number of an entry is the sum of all sales of its row and column; "
                + "in the row 4 of all places, in the column 5 of all sorts of goods.",
                BoundsOfTermsTest::totalsAreOfAllPlacesAndGoods);
        Check.sentence(0, "A table may be turned, or turned back: then first and second in the "
                + "calls below tell the column and the row; otherwise the row and the column.",
                BoundsOfTermsTest::firstAndSecondTellColumnAndRow);
        Check.sentence(0, "Nothing else changes by that.", BoundsOfTermsTest::turningDropsNothing);
        Check.sentence(0, "Nothing else changes by that.", BoundsOfTermsTest::turningTwiceIsNothing);
    }

    private static void reports() {
        Check.sentence(0, "A report is built of a table for a level of readers, from all its "
                + "sales and the embargoes that last; it shows all entries but those that are "
                + "hidden then, and stays until it is dropped, or built anew.",
                BoundsOfTermsTest::aReportStays);
        Check.sentence(0, "All reports of a table are dropped when a sale of it comes or is taken "
                + "back", BoundsOfTermsTest::salesDropAllReportsOfTheirTable);
        Check.sentence(0, "those for levels below that of an embargo of the table when this "
                + "begins", BoundsOfTermsTest::anEmbargoDropsLevelsBelowItWhenItBegins);
        Check.sentence(0, "those for levels below that of an embargo of the table when this "
                + "begins, is lifted", BoundsOfTermsTest::anEmbargoDropsLevelsBelowItWhenLifted);
        Check.sentence(0, "those for levels below that of an embargo of the table when this "
                + "begins, is lifted, or its hour has come.",
                BoundsOfTermsTest::anEmbargoDropsLevelsBelowItInItsHour);
        Check.sentence(0, "those for levels below that of an embargo of the table when this "
                + "begins, is lifted, or its hour has come.",
                BoundsOfTermsTest::anEmbargoThatHasEndedDropsNothing);
    }

    private static void desk() {
        Check.sentence(0, "At the desk entries are marked as hidden, without any table "
                + "(and never turned).", BoundsOfTermsTest::theDeskHasNoTable);
    }

    // ---- calls and constants

    /** 511 calls, and then the last one. */
    private static void all512CallsAnswer() {
        Pivotforge x = Houses.withSales(120);
        for (int i = 0; i < 40; i++) {
            int number = i;
            Check.due("embargo", number, () -> x.embargo(2, 4, 5, 3, 100));
        }
        for (int i = 0; i < 100; i++) {
            Check.due("pass", 0, () -> x.pass(100));
        }
        for (int i = 0; i < 120; i++) {
            int number = i;
            Check.due("takeBack", 1, () -> x.takeBack(number));
        }
        for (int i = 0; i < 131; i++) {
            Check.due("build", 0, () -> x.build(0, 0));
        }
        Check.due("the 512th call", 0, () -> x.read(0, 0));
        Pivotforge y = new Pivotforge();
        for (int i = 0; i < 511; i++) {
            boolean due = i % 2 == 0;
            Check.due("mark", due, () -> y.mark(4, 5));
        }
        Check.due("the 512th call", 3, y::cover);
    }

    private static void noneIsMinus1() {
        Check.compare("NONE", -1, Pivotforge.NONE);
    }

    private static void hiddenIsFarBelowAllNumbers() {
        Check.compare("HIDDEN", -1000000000, Pivotforge.HIDDEN);
        Pivotforge x = new Pivotforge();
        for (int i = 0; i < 120; i++) {
            x.sale(0, 0, 0, -1000);
        }
        x.embargo(0, 4, 5, 1, 1);
        x.build(0, 0);
        x.build(0, 1);
        Check.due("hidden", -1000000000, () -> x.shown(0, 0, 4, 5));
        Check.due("the least number", -120000, () -> x.shown(0, 1, 4, 5));
    }

    private static void whatAnEntryIs() {
        Check.compare("SHOWN", 0, Pivotforge.SHOWN);
        Check.compare("EMBARGOED", 1, Pivotforge.EMBARGOED);
        Check.compare("COVERED", 2, Pivotforge.COVERED);
        Check.compare("UNBUILT", 3, Pivotforge.UNBUILT);
        Pivotforge x = new Pivotforge();
        x.embargo(0, 4, 5, 1, 1);
        Check.due("no report", 3, () -> x.why(0, 0, 4, 5));
        x.build(0, 0);
        Check.due("embargoed", 1, () -> x.why(0, 0, 4, 5));
        Check.due("covered", 2, () -> x.why(0, 0, 0, 0));
        Check.due("shown", 0, () -> x.why(0, 0, 1, 1));
    }

    private static void askingChangesNothing() {
        Houses.Maker maker = BoundsOfTermsTest::aUsedHouse;
        List<String> before = Watch.of(maker);
        Watch.same("asking of reports", before, Watch.after(maker, x -> {
            for (int i = 0; i < 12; i++) {
                x.isBuilt(i / 4, i % 4);
                x.shown(i / 4, i % 4, 4, 0);
                x.why(i / 4, i % 4, 4, 0);
                x.read(i / 4, i % 4);
            }
            x.dropped();
        }));
        Watch.same("asking of tables and of the desk", before, Watch.after(maker, x -> {
            for (int i = 0; i < 30; i++) {
                x.sum(2, i / 6, i % 6);
                x.sumFromSales(2, i / 6, i % 6);
                x.isEmbargoed(2, i / 6, i % 6, 1);
                x.isKnown(i / 6, i % 6);
                x.isKnownBySolving(i / 6, i % 6);
            }
        }));
    }

    /** Sales, embargoes, reports and marks; table 1 is turned. */
    private static Pivotforge aUsedHouse() {
        Pivotforge x = new Pivotforge();
        x.turn(1);
        for (int i = 0; i < 12; i++) {
            x.sale(i % 3, i % 4, i % 5, 11 * i - 50);
            x.embargo(i % 3, i % 4, i % 3, 1 + i % 2, 5 + i);
        }
        x.takeBack(3);
        x.lift(3);
        x.pass(6);
        Houses.buildAll(x);
        Houses.mark(x, new int[][] {{0, 0}, {1, 1}, {4, 5}, {0, 1}, {1, 0}});
        return x;
    }

    /** RefusedCallsTest tries all of them; these are those of which all exceptions apply. */
    private static void theFirstNamedExceptionIsThrown() {
        Pivotforge x = Houses.withSales(120);
        Check.outOfBounds("sale", () -> x.sale(3, 4, 5, 1001));
        Check.illegalArgument("sale", () -> x.sale(0, 0, 0, 1001));
        Check.illegalState("sale", () -> x.sale(0, 0, 0, 1000));
        Check.due("no sale came", 120, () -> x.sum(0, 4, 5));
        Pivotforge y = Houses.withEmbargoes(40);
        Check.outOfBounds("embargo", () -> y.embargo(0, 5, 5, 4, 101));
        Check.illegalArgument("embargo", () -> y.embargo(0, 4, 5, 3, 101));
        Check.illegalState("embargo", () -> y.embargo(0, 4, 5, 3, 100));
        Check.due("no embargo came", false, () -> y.isEmbargoed(0, 4, 5, 0));
        Pivotforge z = Houses.atHour(10000);
        Check.illegalArgument("pass", () -> z.pass(101));
        Check.illegalState("pass", () -> z.pass(100));
        Check.outOfBounds("shown", () -> z.shown(0, 0, 5, 5));
        Check.illegalState("shown", () -> z.shown(0, 0, 4, 5));
        Check.outOfBounds("read", () -> z.read(0, 4));
        Check.illegalState("read", () -> z.read(0, 3));
    }

    private static void hoursAre0To10000() {
        Pivotforge x = new Pivotforge();
        x.embargo(0, 0, 0, 1, 1);
        Check.due("the hour is 0 at first, so 1 is left", 1, () -> x.lift(0));
        for (int i = 0; i < 99; i++) {
            x.pass(100);
        }
        x.pass(99);
        Check.illegalState("from 9999 to 10001", () -> x.pass(2));
        x.pass(1);
        Check.illegalState("from 10000 to 10001", () -> x.pass(1));
        Check.illegalState("from 10000 to 10100", () -> x.pass(100));
        Pivotforge y = new Pivotforge();
        for (int i = 0; i < 400; i++) {
            y.pass(25);
        }
        Check.illegalState("from 10000 to 10001, after 400 calls", () -> y.pass(1));
    }

    private static void allElseGoesOnInHour10000() {
        Pivotforge x = Houses.atHour(10000);
        Check.due("sale", 0, () -> x.sale(0, 3, 4, 8));
        Check.due("takeBack", 8, () -> x.takeBack(0));
        Check.due("embargo", 0, () -> x.embargo(0, 4, 5, 1, 1));
        Check.due("embargo", 1, () -> x.embargo(0, 4, 5, 3, 100));
        Check.due("it lasts", true, () -> x.isEmbargoed(0, 4, 5, 2));
        Check.due("build", 4, () -> x.build(0, 0));
        Check.illegalState("pass", () -> x.pass(1));
        Check.due("the report stays", true, () -> x.isBuilt(0, 0));
        Check.due("lift", 1, () -> x.lift(0));
        Check.due("lift", 100, () -> x.lift(1));
        Check.due("dropped", 1, x::dropped);
        Check.due("build", 0, () -> x.build(0, 0));
    }

    private static void tablesAre0To2AndLevels0To3() {
        Pivotforge x = new Pivotforge();
        for (int i = 0; i < 12; i++) {
            int table = i / 4;
            int level = i % 4;
            x.turn(table);
            x.sale(table, 0, 0, 1);
            x.build(table, level);
            Check.due("read", 1 + level, () -> x.read(table, level));
        }
        for (int t : Check.outside(0, 2)) {
            Check.outOfBounds("turn", () -> x.turn(t));
            Check.outOfBounds("sale", () -> x.sale(t, 0, 0, 0));
            Check.outOfBounds("sum", () -> x.sum(t, 0, 0));
            Check.outOfBounds("sumFromSales", () -> x.sumFromSales(t, 0, 0));
            Check.outOfBounds("embargo", () -> x.embargo(t, 0, 0, 1, 1));
            Check.outOfBounds("isEmbargoed", () -> x.isEmbargoed(t, 0, 0, 0));
            strangeReport(x, t, 0);
        }
        for (int level : Check.outside(0, 3)) {
            Check.outOfBounds("isEmbargoed", () -> x.isEmbargoed(0, 0, 0, level));
            strangeReport(x, 0, level);
        }
    }

    private static void strangeReport(Pivotforge x, int table, int level) {
        Check.outOfBounds("build", () -> x.build(table, level));
        Check.outOfBounds("isBuilt", () -> x.isBuilt(table, level));
        Check.outOfBounds("shown", () -> x.shown(table, level, 0, 0));
        Check.outOfBounds("why", () -> x.why(table, level, 0, 0));
        Check.outOfBounds("read", () -> x.read(table, level));
    }

    // ---- tables

    private static void noSaleIsOfATotal() {
        for (boolean turned : TURNED_OR_NOT) {
            Pivotforge x = Houses.withTable1(turned);
            Check.due("of the last place and goods", 0, () -> x.sale(1, 3, 4, 1));
            Check.outOfBounds("of all places", () -> x.sale(1, 4, 4, 1));
            Check.outOfBounds("of all goods", () -> x.sale(1, 3, 5, 1));
            Check.outOfBounds("of all", () -> x.sale(1, 4, 5, 1));
            Check.due("the total", 1, () -> turned ? x.sum(1, 5, 4) : x.sum(1, 4, 5));
        }
    }

    /** Of each row and column there is just one. */
    private static void entriesAre30() {
        Pivotforge x = new Pivotforge();
        for (int i = 0; i < 36; i++) {
            int row = i % 6;
            int column = i / 6;
            if (row == 5) {
                Check.outOfBounds("mark(5, " + column + ")", () -> x.mark(row, column));
            } else {
                Check.due("mark(" + row + ", " + column + ")", true, () -> x.mark(row, column));
            }
        }
        Check.due("all", 30, x::clear);
    }

    private static void aSaleThatIsTakenBackIsNone() {
        Pivotforge x = new Pivotforge();
        for (int i = 0; i < 120; i++) {
            int number = i;
            Check.due("sale", number, () -> x.sale(0, 3, 4, 10));
            if (number != 119) {
                Check.due("takeBack", 10, () -> x.takeBack(number));
            }
        }
        Check.illegalState("for good", () -> x.takeBack(0));
        Check.illegalState("up to 120", () -> x.sale(0, 3, 4, 10));
        for (int[] e : new int[][] {{3, 4}, {3, 5}, {4, 4}, {4, 5}}) {
            Check.due("sum", 10, () -> x.sum(0, e[0], e[1]));
            Check.due("sumFromSales", 10, () -> x.sumFromSales(0, e[0], e[1]));
        }
        x.build(0, 0);
        Check.due("read", 1, () -> x.read(0, 0));
        Check.due("shown", 10, () -> x.shown(0, 0, 3, 4));
    }

    private static void totalsAreOfAllPlacesAndGoods() {
        for (boolean turned : TURNED_OR_NOT) {
            Pivotforge x = Houses.withTable1(turned);
            for (int i = 0; i < 20; i++) {
                x.sale(1, i / 5, i % 5, 1 + i);
            }
            for (int i = 0; i < 30; i++) {
                int row = i / 6;
                int column = i % 6;
                int number = 0;
                for (int k = 0; k < 20; k++) {
                    boolean in = (row == 4 || row == k / 5) && (column == 5 || column == k % 5);
                    number += in ? 1 + k : 0;
                }
                int first = turned ? column : row;
                int second = turned ? row : column;
                Check.due("sum", number, () -> x.sum(1, first, second));
                Check.due("sumFromSales", number, () -> x.sumFromSales(1, first, second));
            }
        }
    }

    private static void firstAndSecondTellColumnAndRow() {
        Pivotforge x = new Pivotforge();
        x.sale(1, 1, 3, 50);
        x.sale(1, 3, 1, 2);
        x.embargo(1, 1, 3, 1, 100);
        x.build(1, 0);
        for (int turn = 0; turn < 4; turn++) {
            boolean turned = turn % 2 == 1;
            Check.due("sum", turned ? 2 : 50, () -> x.sum(1, 1, 3));
            Check.due("sumFromSales", turned ? 2 : 50, () -> x.sumFromSales(1, 1, 3));
            Check.due("isEmbargoed", !turned, () -> x.isEmbargoed(1, 1, 3, 0));
            Check.due("shown", turned ? 2 : -1000000000, () -> x.shown(1, 0, 1, 3));
            Check.due("why", turned ? 0 : 1, () -> x.why(1, 0, 1, 3));
            Check.due("turn", !turned, () -> x.turn(1));
        }
        x.turn(1);
        x.embargo(1, 4, 0, 2, 100);
        x.turn(1);
        Check.due("an embargo of a turned table", true, () -> x.isEmbargoed(1, 0, 4, 0));
    }

    private static void turningDropsNothing() {
        for (boolean turned : TURNED_OR_NOT) {
            Pivotforge x = new Pivotforge();
            x.embargo(1, 2, 1, 2, 7);
            x.sale(1, 2, 3, 9);
            Houses.buildAll(x);
            x.mark(4, 5);
            if (turned) {
                x.turn(1);
            }
            Houses.dueReports("after turn", x, (table, level) -> true);
            Check.due("dropped", 0, x::dropped);
            Check.due("read", 1, () -> x.read(1, 0));
            Check.due("places and goods are not turned", 1, () -> x.sale(1, 0, 4, 6));
            Check.due("build anew", 4, () -> x.build(1, 1));
            x.turn(1);
            x.turn(1);
            Check.due("the lowest row and column are not turned", 2,
                    () -> turned ? x.why(1, 1, 0, 2) : x.why(1, 1, 2, 0));
            Check.due("the lowest row and column are not turned", 2, () -> x.why(1, 1, 0, 0));
            Check.due("the desk is not turned", 3, x::cover);
            Check.due("lift", 7, () -> x.lift(0));
        }
    }

    private static void turningTwiceIsNothing() {
        Houses.Maker maker = BoundsOfTermsTest::aUsedHouse;
        List<String> before = Watch.of(maker);
        for (int t = 0; t < 3; t++) {
            int table = t;
            Watch.same("turning table " + table + " twice", before, Watch.after(maker, x -> {
                x.turn(table);
                x.turn(table);
            }));
        }
    }

    // ---- reports

    /** Whatever else happens. */
    private static void aReportStays() {
        Pivotforge x = new Pivotforge();
        x.sale(1, 3, 4, 9);
        x.embargo(1, 3, 4, 2, 50);
        Houses.buildAll(x);
        x.sale(0, 3, 4, 9);
        x.takeBack(1);
        x.embargo(0, 0, 0, 3, 1);
        x.lift(1);
        x.turn(1);
        x.turn(0);
        x.pass(49);
        x.mark(0, 0);
        x.cover();
        x.clear();
        Houses.dueReports("of the other tables", x, (table, level) -> table != 0);
        Check.due("its entry, for level 1", 1, () -> x.why(1, 1, 4, 3));
        Check.due("its entry, for level 2", 9, () -> x.shown(1, 2, 4, 3));
        Check.due("its total, for level 1", 9, () -> x.shown(1, 1, 5, 4));
        Check.due("what it has read", 1, () -> x.read(1, 1));
        Check.due("built anew", 4, () -> x.build(1, 1));
        Check.due("dropped", 4, x::dropped);
        x.pass(1);
        Houses.dueReports("its hour has come", x,
                (table, level) -> table == 2 || table == 1 && level >= 2);
        Check.due("for level 2 it stays", 9, () -> x.shown(1, 2, 4, 3));
    }

    private static void salesDropAllReportsOfTheirTable() {
        for (int t = 0; t < 3; t++) {
            int sold = t;
            Pivotforge x = new Pivotforge();
            Houses.buildAll(x);
            x.sale(sold, 3, 4, 0);
            Houses.dueReports("a sale of nothing", x, (table, level) -> table != sold);
            Check.due("dropped", 4, x::dropped);
            Houses.buildAll(x);
            x.takeBack(0);
            Houses.dueReports("it is taken back", x, (table, level) -> table != sold);
            Check.due("dropped", 8, x::dropped);
            Houses.buildAll(x);
            Check.illegalState("taken back again", () -> x.takeBack(0));
            Houses.dueReports("it is refused", x, (table, level) -> true);
            Check.due("dropped", 8, x::dropped);
        }
    }

    private static void anEmbargoDropsLevelsBelowItWhenItBegins() {
        for (int i = 0; i < 9; i++) {
            int of = i / 3;
            int below = 1 + i % 3;
            Pivotforge x = new Pivotforge();
            Houses.buildAll(x);
            x.embargo(of, 4, 5, below, 1);
            Houses.dueReports("it begins", x, (table, level) -> table != of || level >= below);
            Check.due("dropped", below, x::dropped);
            Houses.buildAll(x);
            x.embargo(of, 4, 5, below, 1);
            Houses.dueReports("of the same entry", x,
                    (table, level) -> table != of || level >= below);
            Check.due("dropped", 2 * below, x::dropped);
        }
    }

    private static void anEmbargoDropsLevelsBelowItWhenLifted() {
        for (int i = 0; i < 9; i++) {
            int of = i / 3;
            int below = 1 + i % 3;
            Pivotforge x = new Pivotforge();
            x.embargo(of, 4, 5, below, 2);
            x.embargo(of, 4, 5, 3, 100);
            x.pass(1);
            Houses.buildAll(x);
            x.lift(0);
            Houses.dueReports("it is lifted", x, (table, level) -> table != of || level >= below);
            Check.due("dropped", below, x::dropped);
        }
    }

    private static void anEmbargoDropsLevelsBelowItInItsHour() {
        for (int i = 0; i < 9; i++) {
            int of = i / 3;
            int below = 1 + i % 3;
            for (int hours : new int[] {1, 2, 99, 100}) {
                Pivotforge x = new Pivotforge();
                x.embargo(of, 4, 5, below, hours);
                Houses.buildAll(x);
                if (hours > 1) {
                    Check.due("an hour before", 0, () -> x.pass(hours - 1));
                }
                Houses.dueReports("an hour before", x, (table, level) -> true);
                Check.due("its hour has come", below, () -> x.pass(1));
                Houses.dueReports("its hour has come", x,
                        (table, level) -> table != of || level >= below);
                Check.due("dropped", below, x::dropped);
                Houses.buildAll(x);
                Check.due("behind its hour", 0, () -> x.pass(100));
                Houses.dueReports("behind its hour", x, (table, level) -> true);
            }
        }
        Pivotforge y = Houses.atHour(9999);
        y.embargo(0, 0, 0, 3, 1);
        y.build(0, 2);
        Check.due("its hour is 10000", 1, () -> y.pass(1));
    }

    private static void anEmbargoThatHasEndedDropsNothing() {
        Pivotforge x = new Pivotforge();
        x.embargo(1, 4, 5, 3, 10);
        x.embargo(1, 4, 5, 3, 5);
        x.lift(0);
        x.pass(5);
        Houses.buildAll(x);
        Check.illegalState("lifted again", () -> x.lift(0));
        Check.illegalState("lifted behind its hour", () -> x.lift(1));
        Check.due("the hour that the lifted one had", 0, () -> x.pass(5));
        Houses.dueReports("all stay", x, (table, level) -> true);
        Check.due("dropped", 0, x::dropped);
    }

    // ---- the desk

    private static void theDeskHasNoTable() {
        Pivotforge x = new Pivotforge();
        x.turn(0);
        x.turn(1);
        x.turn(2);
        x.embargo(0, 2, 2, 3, 100);
        Check.due("an embargoed entry's covers", 4, () -> x.build(0, 0));
        Check.due("embargoed is not marked", 0, x::cover);
        Check.due("covered is not marked", 0, x::clear);
        Check.due("the last row and column", true, () -> x.mark(4, 5));
        Check.outOfBounds("not turned", () -> x.mark(5, 4));
        Check.outOfBounds("not turned", () -> x.isKnown(5, 4));
        Check.outOfBounds("not turned", () -> x.isKnownBySolving(5, 4));
        Check.due("cover", 3, x::cover);
        Check.due("marked is not hidden", 0, () -> x.build(1, 0));
        Check.due("nothing is dropped", 0, x::dropped);
        Check.due("marks", 4, x::clear);
    }
}
