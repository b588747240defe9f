/** Promises 1 to 6, sentence by sentence: the ends of all ranges, and what lies behind them. */
public final class BoundsOfSalesTest {
    private static final int[] ENDS_OF_TABLES = {0, 2};
    private static final boolean[] TURNED_OR_NOT = {false, true};

    /** A call that is told a table and two numbers of an entry. */
    private interface EntryCall {
        int on(Pivotforge x, int table, int first, int second);
    }

    public static void main(String[] args) {
        promise1();
        promise2();
        promise3();
        promise4();
        sums(5, "Returns the number of an entry, by the sums that are kept.", Pivotforge::sum);
        sums(6, "Returns the same, from all sales.", Pivotforge::sumFromSales);
        Document.allQuoted("Promise 1", "Promise 2", "Promise 3", "Promise 4",
                "Promise 5", "Promise 6");
        Check.end();
    }

    private static void promise1() {
        Check.sentence(1, "Creates a house without sales, embargoes and reports.",
                BoundsOfSalesTest::aNewHouseIsEmpty);
    }

    private static void promise2() {
        Check.sentence(2, "Enters a sale.", BoundsOfSalesTest::saleEntersWhereItIsTold);
        Check.sentence(2, "`table`: 0 to 2", BoundsOfSalesTest::saleTakesTables0To2);
        Check.sentence(2, "`place`: 0 to 3", BoundsOfSalesTest::saleTakesPlaces0To3);
        Check.sentence(2, "`goods`: 0 to 4", BoundsOfSalesTest::saleTakesGoods0To4);
        Check.sentence(2, "`amount`: -1000 to 1000", BoundsOfSalesTest::saleTakesAmountsUpTo1000);
        Check.sentence(2, "Returns its number.", BoundsOfSalesTest::salesAreNumbered0To119);
        Check.sentence(2,
                "Throws `IndexOutOfBoundsException` if there is no such table, place or goods",
                BoundsOfSalesTest::saleRefusesStrangeTablesPlacesAndGoods);
        Check.sentence(2, "Throws `IllegalArgumentException` if amount is out of range",
                BoundsOfSalesTest::saleRefusesAmountsBehind1000);
        Check.sentence(2, "Throws `IllegalStateException` if there are 120",
                BoundsOfSalesTest::saleRefusesWhenThereAre120);
    }

    private static void promise3() {
        Check.sentence(3, "Takes a sale back.", BoundsOfSalesTest::takeBackTakesOneSaleBack);
        Check.sentence(3, "`sale`: the number of a sale",
                BoundsOfSalesTest::takeBackTakesTheFirstAndTheLast);
        Check.sentence(3, "Returns its amount.", BoundsOfSalesTest::takeBackReturnsTheAmount);
        Check.sentence(3, "Throws `IndexOutOfBoundsException` if there is no such sale",
                BoundsOfSalesTest::takeBackRefusesStrangeNumbers);
        Check.sentence(3, "Throws `IllegalStateException` if it was taken back",
                BoundsOfSalesTest::takeBackRefusesTheSecondTime);
    }

    private static void promise4() {
        Check.sentence(4, "Turns a table, or turns it back.", BoundsOfSalesTest::turnTurnsAndBack);
        Check.sentence(4, "`table`: 0 to 2", BoundsOfSalesTest::turnTakesTables0To2);
        Check.sentence(4, "Returns true if it is turned then.",
                BoundsOfSalesTest::turnTellsWhetherItIsTurned);
        Check.sentence(4, "Throws `IndexOutOfBoundsException` if there is no such table",
                BoundsOfSalesTest::turnRefusesStrangeTables);
    }

    private static void sums(int promise, String what, EntryCall call) {
        Check.sentence(promise, what, () -> theSumIsOfAllSalesAndOfNone(call));
        Check.sentence(promise, "`table`: 0 to 2", () -> sumTakesTables0To2(call));
        Check.sentence(promise, "`first`: the row, or the column if the table is turned",
                () -> sumTakesFirstAsRowOrColumn(call));
        Check.sentence(promise, "`second`: the column, or the row if the table is turned",
                () -> sumTakesSecondAsColumnOrRow(call));
        Check.sentence(promise,
                "Throws `IndexOutOfBoundsException` if there is no such table or entry",
                () -> sumRefusesStrangeTablesAndEntries(call));
    }

    // ---- promise 1

    private static void aNewHouseIsEmpty() {
        Pivotforge x = new Pivotforge();
        Check.outOfBounds("takeBack(0)", () -> x.takeBack(0));
        Check.outOfBounds("lift(0)", () -> x.lift(0));
        Houses.dueReports("new", x, (table, level) -> false);
        Check.due("dropped", 0, x::dropped);
        Check.due("clear", 0, x::clear);
        Check.due("cover", 0, x::cover);
        for (int i = 0; i < 90; i++) {
            int table = i / 30;
            int row = i % 30 / 6;
            int column = i % 6;
            Check.due("sum", 0, () -> x.sum(table, row, column));
            Check.due("sumFromSales", 0, () -> x.sumFromSales(table, row, column));
            Check.due("isEmbargoed", false, () -> x.isEmbargoed(table, row, column, 0));
        }
        for (int i = 0; i < 12; i++) {
            int table = i / 4;
            int level = i % 4;
            Check.due("why", 3, () -> x.why(table, level, 4, 5));
            Check.illegalState("shown", () -> x.shown(table, level, 4, 5));
            Check.illegalState("read", () -> x.read(table, level));
        }
        Check.due("the first pass", 0, () -> x.pass(1));
        Check.due("the first build", 0, () -> x.build(0, 0));
        Check.due("its sales", 0, () -> x.read(0, 0));
    }

    // ---- promise 2

    /** Every place and sort of goods, those at the ends among them, in every table. */
    private static void saleEntersWhereItIsTold() {
        for (int i = 0; i < 60; i++) {
            int table = i / 20;
            int place = i % 20 / 5;
            int goods = i % 5;
            Pivotforge x = new Pivotforge();
            Check.due("sale", 0, () -> x.sale(table, place, goods, 7));
            for (int k = 0; k < 90; k++) {
                int t = k / 30;
                int row = k % 30 / 6;
                int column = k % 6;
                boolean in = t == table && (row == place || row == 4)
                        && (column == goods || column == 5);
                Check.due("sum(" + t + ", " + row + ", " + column + ")", in ? 7 : 0,
                        () -> x.sum(t, row, column));
                Check.due("sumFromSales(" + t + ", " + row + ", " + column + ")", in ? 7 : 0,
                        () -> x.sumFromSales(t, row, column));
            }
        }
    }

    private static void saleTakesTables0To2() {
        Pivotforge x = new Pivotforge();
        int number = 0;
        for (int table : ENDS_OF_TABLES) {
            int due = number++;
            Check.due("sale of table " + table, due, () -> x.sale(table, 0, 0, 5));
        }
        for (int table : Check.outside(0, 2)) {
            Check.outOfBounds("sale of table " + table, () -> x.sale(table, 0, 0, 5));
        }
    }

    private static void saleTakesPlaces0To3() {
        for (boolean turned : TURNED_OR_NOT) {
            Pivotforge x = Houses.withTable1(turned);
            Check.due("sale of place 0", 0, () -> x.sale(1, 0, 4, 5));
            Check.due("sale of place 3", 1, () -> x.sale(1, 3, 4, 6));
            for (int place : Check.outside(0, 3)) {
                Check.outOfBounds("sale of place " + place, () -> x.sale(1, place, 2, 5));
            }
            Check.due("the sum of place 3", 6, () -> turned ? x.sum(1, 4, 3) : x.sum(1, 3, 4));
            Check.due("the sum of all", 11, () -> turned ? x.sum(1, 5, 4) : x.sum(1, 4, 5));
        }
    }

    private static void saleTakesGoods0To4() {
        for (boolean turned : TURNED_OR_NOT) {
            Pivotforge x = Houses.withTable1(turned);
            Check.due("sale of goods 0", 0, () -> x.sale(1, 3, 0, 5));
            Check.due("sale of goods 4", 1, () -> x.sale(1, 3, 4, 6));
            for (int goods : Check.outside(0, 4)) {
                Check.outOfBounds("sale of goods " + goods, () -> x.sale(1, 2, goods, 5));
            }
            Check.due("the sum of goods 4", 6, () -> x.sum(1, 4, 4));
            Check.due("the sum of all", 11, () -> turned ? x.sum(1, 5, 4) : x.sum(1, 4, 5));
        }
    }

    private static void saleTakesAmountsUpTo1000() {
        int number = 0;
        Pivotforge x = new Pivotforge();
        for (int amount : new int[] {-1000, -999, -1, 0, 1, 999, 1000}) {
            int due = number++;
            Check.due("sale of " + amount, due, () -> x.sale(0, 1, 1, amount));
            Check.due("its amount", amount, () -> x.takeBack(due));
        }
        for (int amount : Check.outside(-1000, 1000)) {
            Check.illegalArgument("sale of " + amount, () -> x.sale(0, 1, 1, amount));
        }
    }

    private static void salesAreNumbered0To119() {
        Pivotforge x = new Pivotforge();
        for (int i = 0; i < 120; i++) {
            int number = i;
            Check.due("sale", number, () -> x.sale(number % 3, number % 4, number % 5, number));
            if (number % 10 == 0) {
                Check.due("takeBack", number, () -> x.takeBack(number));
                Check.outOfBounds("a refused sale takes no number", () -> x.sale(3, 0, 0, 0));
                Check.illegalArgument("a refused sale takes no number",
                        () -> x.sale(0, 0, 0, 1001));
            }
        }
    }

    private static void saleRefusesStrangeTablesPlacesAndGoods() {
        for (boolean turned : TURNED_OR_NOT) {
            Pivotforge x = Houses.withTable1(turned);
            for (int amount : new int[] {0, 1001}) {
                for (int table : Check.outside(0, 2)) {
                    Check.outOfBounds("sale", () -> x.sale(table, 0, 0, amount));
                }
                for (int place : Check.outside(0, 3)) {
                    Check.outOfBounds("sale", () -> x.sale(1, place, 0, amount));
                }
                for (int goods : Check.outside(0, 4)) {
                    Check.outOfBounds("sale", () -> x.sale(1, 0, goods, amount));
                }
            }
            Check.due("the first that is taken", 0, () -> x.sale(1, 3, 4, 1));
        }
    }

    private static void saleRefusesAmountsBehind1000() {
        for (int count : new int[] {0, 119, 120}) {
            Pivotforge x = Houses.withSales(count);
            for (int amount : Check.outside(-1000, 1000)) {
                Check.illegalArgument("sale of " + amount + " after " + count,
                        () -> x.sale(0, 0, 0, amount));
            }
            Check.due("the sum stays", count, () -> x.sum(0, 0, 0));
        }
    }

    /** Those that were taken back are among the 120, and so are those of other tables. */
    private static void saleRefusesWhenThereAre120() {
        Pivotforge x = Houses.withSales(119);
        Check.due("the 120th", 119, () -> x.sale(2, 3, 4, 1000));
        Check.illegalState("one more", () -> x.sale(0, 0, 0, 1));
        Check.illegalState("one more of another table", () -> x.sale(1, 3, 4, 1));
        Check.illegalState("one more of nothing", () -> x.sale(0, 0, 0, 0));
        for (int i = 0; i < 120; i++) {
            x.takeBack(i);
        }
        Check.illegalState("one more when all are taken back", () -> x.sale(0, 0, 0, 1));
        Check.due("the sum", 0, () -> x.sum(0, 4, 5));
        Pivotforge y = Houses.withSales(119);
        y.takeBack(0);
        y.takeBack(118);
        Check.due("the 120th, two taken back", 119, () -> y.sale(0, 0, 0, 1));
        Check.illegalState("one more, two taken back", () -> y.sale(0, 0, 0, 1));
    }

    // ---- promise 3

    private static void takeBackTakesOneSaleBack() {
        Pivotforge x = new Pivotforge();
        x.sale(1, 3, 4, 5);
        x.sale(1, 3, 4, 5);
        x.sale(2, 3, 4, 5);
        x.takeBack(1);
        for (int[] e : new int[][] {{3, 4}, {3, 5}, {4, 4}, {4, 5}}) {
            Check.due("sum", 5, () -> x.sum(1, e[0], e[1]));
            Check.due("sumFromSales", 5, () -> x.sumFromSales(1, e[0], e[1]));
            Check.due("sum of another table", 5, () -> x.sum(2, e[0], e[1]));
            Check.due("sumFromSales of another table", 5, () -> x.sumFromSales(2, e[0], e[1]));
        }
        x.build(1, 0);
        Check.due("read", 1, () -> x.read(1, 0));
    }

    private static void takeBackTakesTheFirstAndTheLast() {
        for (int count : new int[] {1, 2, 119, 120}) {
            Pivotforge x = Houses.withSales(count);
            Check.due("the last of " + count, 1, () -> x.takeBack(count - 1));
            if (count > 1) {
                Check.due("the first of " + count, 1, () -> x.takeBack(0));
            }
            Check.due("the sum", Math.max(0, count - 2), () -> x.sum(0, 0, 0));
        }
    }

    private static void takeBackReturnsTheAmount() {
        Pivotforge x = new Pivotforge();
        int[] amounts = {-1000, -1, 0, 1, 1000};
        for (int amount : amounts) {
            x.sale(0, 3, 4, amount);
        }
        for (int i = amounts.length - 1; i >= 0; i--) {
            int number = i;
            Check.due("takeBack", amounts[number], () -> x.takeBack(number));
        }
    }

    private static void takeBackRefusesStrangeNumbers() {
        for (int count : new int[] {0, 1, 119, 120}) {
            Pivotforge x = Houses.withSales(count);
            for (int sale : Check.outside(0, count - 1)) {
                Check.outOfBounds("takeBack(" + sale + ") of " + count, () -> x.takeBack(sale));
            }
            Check.outOfBounds("takeBack(120) of " + count, () -> x.takeBack(120));
            Check.due("the sum stays", count, () -> x.sum(0, 0, 0));
        }
        Pivotforge y = Houses.withSales(120);
        Check.illegalState("a sale that is refused", () -> y.sale(0, 0, 0, 1));
        Check.outOfBounds("is none", () -> y.takeBack(120));
    }

    private static void takeBackRefusesTheSecondTime() {
        Pivotforge x = Houses.withSales(119);
        x.takeBack(0);
        x.takeBack(118);
        for (int sale : new int[] {0, 118}) {
            Check.illegalState("takeBack(" + sale + ") again", () -> x.takeBack(sale));
        }
        x.sale(0, 0, 0, 1);
        x.pass(1);
        x.build(0, 0);
        for (int sale : new int[] {0, 118}) {
            Check.illegalState("takeBack(" + sale + "), later", () -> x.takeBack(sale));
        }
        Check.due("the sum", 118, () -> x.sum(0, 0, 0));
        Check.due("the sales read", 118, () -> x.read(0, 0));
    }

    // ---- promise 4

    /** Just the table that is told. */
    private static void turnTurnsAndBack() {
        for (int table = 0; table < 3; table++) {
            int turned = table;
            Pivotforge x = new Pivotforge();
            for (int t = 0; t < 3; t++) {
                x.sale(t, 3, 0, 9);
            }
            x.turn(turned);
            for (int t = 0; t < 3; t++) {
                int other = t;
                Check.due("sum after turn", other == turned ? 0 : 9, () -> x.sum(other, 3, 0));
                Check.due("sum after turn", other == turned ? 9 : 0, () -> x.sum(other, 0, 3));
            }
            x.turn(turned);
            for (int t = 0; t < 3; t++) {
                int other = t;
                Check.due("sum after turning back", 9, () -> x.sum(other, 3, 0));
                Check.due("sum after turning back", 0, () -> x.sum(other, 0, 3));
            }
        }
    }

    private static void turnTakesTables0To2() {
        Pivotforge x = new Pivotforge();
        for (int table : ENDS_OF_TABLES) {
            Check.due("turn(" + table + ")", true, () -> x.turn(table));
        }
        for (int table : Check.outside(0, 2)) {
            Check.outOfBounds("turn(" + table + ")", () -> x.turn(table));
        }
    }

    private static void turnTellsWhetherItIsTurned() {
        Pivotforge x = new Pivotforge();
        for (int i = 0; i < 6; i++) {
            for (int t = 0; t < 3; t++) {
                boolean due = i % 2 == 0;
                int table = t;
                Check.due("turn(" + table + ")", due, () -> x.turn(table));
            }
        }
    }

    private static void turnRefusesStrangeTables() {
        for (boolean turned : TURNED_OR_NOT) {
            Pivotforge x = Houses.withTable1(turned);
            for (int table : Check.outside(0, 2)) {
                Check.outOfBounds("turn(" + table + ")", () -> x.turn(table));
            }
            Check.due("table 0", true, () -> x.turn(0));
            Check.due("table 1", !turned, () -> x.turn(1));
            Check.due("table 2", true, () -> x.turn(2));
        }
    }

    // ---- promises 5 and 6

    /** The greatest and the least number that 120 sales can make, and that of no sale. */
    private static void theSumIsOfAllSalesAndOfNone(EntryCall call) {
        for (int amount : new int[] {-1000, 1000}) {
            Pivotforge x = new Pivotforge();
            for (int i = 0; i < 120; i++) {
                x.sale(2, 3, 4, amount);
            }
            for (int k = 0; k < 60; k++) {
                int table = 1 + k / 30;
                int row = k % 30 / 6;
                int column = k % 6;
                boolean in = table == 2 && row >= 3 && column >= 4;
                Check.due("the sum of 120 sales", in ? 120 * amount : 0,
                        () -> call.on(x, table, row, column));
            }
            for (int i = 0; i < 120; i++) {
                x.takeBack(i);
            }
            Check.due("the sum when all are taken back", 0, () -> call.on(x, 2, 4, 5));
            Check.due("the sum when all are taken back", 0, () -> call.on(x, 2, 3, 4));
        }
    }

    private static void sumTakesTables0To2(EntryCall call) {
        Pivotforge x = new Pivotforge();
        x.sale(0, 0, 0, 5);
        x.sale(2, 0, 0, 6);
        Check.due("of table 0", 5, () -> call.on(x, 0, 4, 5));
        Check.due("of table 1", 0, () -> call.on(x, 1, 4, 5));
        Check.due("of table 2", 6, () -> call.on(x, 2, 4, 5));
        for (int table : Check.outside(0, 2)) {
            Check.outOfBounds("of table " + table, () -> call.on(x, table, 0, 0));
        }
    }

    private static void sumTakesFirstAsRowOrColumn(EntryCall call) {
        Pivotforge x = new Pivotforge();
        x.sale(1, 0, 0, 5);
        Check.due("the first row", 5, () -> call.on(x, 1, 0, 0));
        Check.due("the last row", 5, () -> call.on(x, 1, 4, 0));
        strangeFirst(call, x, 4);
        x.turn(1);
        Check.due("the first column", 5, () -> call.on(x, 1, 0, 0));
        Check.due("the last column", 5, () -> call.on(x, 1, 5, 0));
        strangeFirst(call, x, 5);
        x.turn(1);
        strangeFirst(call, x, 4);
    }

    private static void strangeFirst(EntryCall call, Pivotforge x, int greatest) {
        for (int first : Check.outside(0, greatest)) {
            Check.outOfBounds("of first " + first, () -> call.on(x, 1, first, 0));
        }
    }

    private static void sumTakesSecondAsColumnOrRow(EntryCall call) {
        Pivotforge x = new Pivotforge();
        x.sale(1, 0, 0, 5);
        Check.due("the first column", 5, () -> call.on(x, 1, 0, 0));
        Check.due("the last column", 5, () -> call.on(x, 1, 0, 5));
        strangeSecond(call, x, 5);
        x.turn(1);
        Check.due("the first row", 5, () -> call.on(x, 1, 0, 0));
        Check.due("the last row", 5, () -> call.on(x, 1, 0, 4));
        strangeSecond(call, x, 4);
        x.turn(1);
        strangeSecond(call, x, 5);
    }

    private static void strangeSecond(EntryCall call, Pivotforge x, int greatest) {
        for (int second : Check.outside(0, greatest)) {
            Check.outOfBounds("of second " + second, () -> call.on(x, 1, 0, second));
        }
    }

    private static void sumRefusesStrangeTablesAndEntries(EntryCall call) {
        for (boolean turned : TURNED_OR_NOT) {
            Pivotforge x = Houses.withTable1(turned);
            int rows = turned ? 5 : 4;
            int columns = turned ? 4 : 5;
            Check.due("the last entry", 0, () -> call.on(x, 1, rows, columns));
            for (int table : Check.outside(0, 2)) {
                Check.outOfBounds("table", () -> call.on(x, table, 0, 0));
                Check.outOfBounds("table and entry", () -> call.on(x, table, 6, -1));
            }
            for (int first : Check.outside(0, rows)) {
                Check.outOfBounds("first", () -> call.on(x, 1, first, columns));
                for (int second : Check.outside(0, columns)) {
                    Check.outOfBounds("second", () -> call.on(x, 1, rows, second));
                    Check.outOfBounds("first and second", () -> call.on(x, 1, first, second));
                }
            }
        }
    }
}
