/** Promises 1 to 6: a new object, sales, turning and sums. */
public final class SalesTest {
    private static final int[] STRANGE_TABLES = {-1, 3, Integer.MIN_VALUE, Integer.MAX_VALUE};

    public static void main(String[] args) {
        aNewObjectHoldsNothing();
        aNewDeskHasNoMarks();
        salesAreNumbered();
        saleRefusesWrongInputs();
        saleNamesItsExceptionsInOrder();
        thereAreAtMost120Sales();
        aRefusedSaleChangesNothing();
        takeBackReturnsTheAmount();
        takeBackRefusesWrongInputs();
        takeBackGivesNoNumberFree();
        turnTurnsAndTurnsBack();
        turnRefusesWrongInputs();
        sumsAddUp();
        sumsKeepTheirTable();
        sumsFollowTheTurn();
        sumsRefuseWrongInputs();
        Check.end();
    }

    private static void aNewObjectHoldsNothing() {
        Pivotforge x = new Pivotforge();
        for (int table = 0; table < 3; table++) {
            int t = table;
            for (int level = 0; level < 4; level++) {
                int l = level;
                Check.due("new isBuilt", false, () -> x.isBuilt(t, l));
                Check.due("new why", Pivotforge.UNBUILT, () -> x.why(t, l, 4, 5));
            }
            for (int row = 0; row < 5; row++) {
                for (int column = 0; column < 6; column++) {
                    int r = row;
                    int c = column;
                    Check.due("new sum", 0, () -> x.sum(t, r, c));
                    Check.due("new sumFromSales", 0, () -> x.sumFromSales(t, r, c));
                    Check.due("new isEmbargoed", false, () -> x.isEmbargoed(t, r, c, 0));
                }
            }
            Check.due("new turn", true, () -> x.turn(t));
        }
        Check.due("new dropped", 0, x::dropped);
        Check.outOfBounds("new takeBack", () -> x.takeBack(0));
        Check.outOfBounds("new lift", () -> x.lift(0));
        Check.due("first sale", 0, () -> x.sale(0, 0, 0, 1));
        Check.due("first embargo", 0, () -> x.embargo(0, 0, 0, 1, 1));
    }

    private static void aNewDeskHasNoMarks() {
        Pivotforge x = new Pivotforge();
        for (int row = 0; row < 5; row++) {
            for (int column = 0; column < 6; column++) {
                int r = row;
                int c = column;
                Check.due("new isKnown", true, () -> x.isKnown(r, c));
                Check.due("new isKnownBySolving", true, () -> x.isKnownBySolving(r, c));
            }
        }
        Check.due("new cover", 0, x::cover);
        Check.due("new clear", 0, x::clear);
        for (int i = 0; i < 100; i++) {
            Check.due("new pass: the hour of now is 0", 0, () -> x.pass(100));
        }
        Check.illegalState("new pass behind 10000", () -> x.pass(1));
    }

    private static void salesAreNumbered() {
        Pivotforge x = new Pivotforge();
        Check.due("sale in table 0", 0, () -> x.sale(0, 0, 0, -1000));
        Check.due("sale in table 2", 1, () -> x.sale(2, 3, 4, 1000));
        Check.due("sale of nothing", 2, () -> x.sale(1, 3, 0, 0));
        Check.due("sale of the same entry", 3, () -> x.sale(0, 0, 0, 999));
        Check.due("sum after sales", -1, () -> x.sum(0, 0, 0));
        Check.due("sum after sales", 1000, () -> x.sum(2, 4, 5));
    }

    private static void saleRefusesWrongInputs() {
        Pivotforge x = new Pivotforge();
        for (int table : STRANGE_TABLES) {
            Check.outOfBounds("sale, table", () -> x.sale(table, 0, 0, 0));
        }
        for (int place : new int[] {-1, 4, Integer.MIN_VALUE, Integer.MAX_VALUE}) {
            Check.outOfBounds("sale, place", () -> x.sale(0, place, 0, 0));
        }
        for (int goods : new int[] {-1, 5, Integer.MIN_VALUE, Integer.MAX_VALUE}) {
            Check.outOfBounds("sale, goods", () -> x.sale(0, 0, goods, 0));
        }
        for (int amount : new int[] {-1001, 1001, Integer.MIN_VALUE, Integer.MAX_VALUE}) {
            Check.illegalArgument("sale, amount", () -> x.sale(0, 0, 0, amount));
        }
        x.turn(0);
        Check.outOfBounds("a turned table's sale still tells place, goods", () -> x.sale(0, 4, 0, 0));
        Check.due("a turned table's sale", 0, () -> x.sale(0, 0, 4, 7));
        Check.due("its sum", 7, () -> x.sum(0, 4, 0));
    }

    private static void saleNamesItsExceptionsInOrder() {
        Pivotforge x = withSales(120);
        Check.outOfBounds("sale, table and amount and count", () -> x.sale(3, 0, 0, 1001));
        Check.outOfBounds("sale, place and amount and count", () -> x.sale(0, 4, 0, 1001));
        Check.outOfBounds("sale, goods and amount and count", () -> x.sale(0, 0, 5, -1001));
        Check.illegalArgument("sale, amount and count", () -> x.sale(0, 0, 0, 1001));
        Check.illegalState("sale, count", () -> x.sale(0, 0, 0, 1000));
    }

    private static void thereAreAtMost120Sales() {
        Pivotforge x = withSales(119);
        Check.due("the last sale", 119, () -> x.sale(0, 0, 0, 1));
        Check.illegalState("one sale more", () -> x.sale(0, 0, 0, 1));
        Check.due("the sum of all", 120, () -> x.sum(0, 4, 5));
        Check.due("the last sale comes back", 1, () -> x.takeBack(119));
        Check.outOfBounds("the one that did not come", () -> x.takeBack(120));
    }

    private static void aRefusedSaleChangesNothing() {
        Pivotforge x = withSales(120);
        x.build(0, 0);
        Check.outOfBounds("refused sale", () -> x.sale(0, 0, 5, 1));
        Check.illegalArgument("refused sale", () -> x.sale(0, 0, 0, 1001));
        Check.illegalState("refused sale", () -> x.sale(0, 0, 0, 1));
        Check.outOfBounds("refused takeBack", () -> x.takeBack(120));
        Check.due("the report stays", true, () -> x.isBuilt(0, 0));
        Check.due("nothing is dropped", 0, x::dropped);
        Check.due("the sum stays", 120, () -> x.sum(0, 0, 0));
        Check.due("the sum from sales stays", 120, () -> x.sumFromSales(0, 0, 0));
        Pivotforge y = new Pivotforge();
        Check.illegalArgument("refused first sale", () -> y.sale(0, 0, 0, 1001));
        Check.due("takes no number", 0, () -> y.sale(0, 0, 0, 1));
    }

    private static void takeBackReturnsTheAmount() {
        Pivotforge x = new Pivotforge();
        x.sale(1, 2, 3, -40);
        x.sale(1, 2, 3, 70);
        Check.due("takeBack", -40, () -> x.takeBack(0));
        for (int[] entry : new int[][] {{2, 3}, {2, 5}, {4, 3}, {4, 5}}) {
            Check.due("sum", 70, () -> x.sum(1, entry[0], entry[1]));
            Check.due("sumFromSales", 70, () -> x.sumFromSales(1, entry[0], entry[1]));
        }
        Check.due("takeBack", 70, () -> x.takeBack(1));
        Check.due("sum", 0, () -> x.sum(1, 4, 5));
    }

    private static void takeBackRefusesWrongInputs() {
        Pivotforge x = new Pivotforge();
        x.sale(0, 0, 0, 5);
        for (int sale : new int[] {-1, 1, 119, 120, Integer.MIN_VALUE, Integer.MAX_VALUE}) {
            Check.outOfBounds("takeBack", () -> x.takeBack(sale));
        }
        x.takeBack(0);
        x.build(0, 1);
        Check.illegalState("takeBack again", () -> x.takeBack(0));
        Check.due("nothing changed", 0, () -> x.sum(0, 0, 0));
        Check.due("the report stays", true, () -> x.isBuilt(0, 1));
        Check.due("a number goes on", 1, () -> x.sale(0, 0, 0, 5));
        Check.illegalState("for good", () -> x.takeBack(0));
    }

    private static void takeBackGivesNoNumberFree() {
        Pivotforge x = withSales(120);
        x.takeBack(7);
        Check.illegalState("numbers are up to 120", () -> x.sale(0, 0, 0, 1));
    }

    private static void turnTurnsAndTurnsBack() {
        Pivotforge x = new Pivotforge();
        x.build(1, 0);
        Check.due("turn", true, () -> x.turn(1));
        Check.due("turn the other", true, () -> x.turn(0));
        Check.due("turn back", false, () -> x.turn(1));
        Check.due("turn again", true, () -> x.turn(1));
        Check.due("a report stays", true, () -> x.isBuilt(1, 0));
    }

    private static void turnRefusesWrongInputs() {
        Pivotforge x = new Pivotforge();
        for (int table : STRANGE_TABLES) {
            Check.outOfBounds("turn", () -> x.turn(table));
        }
        for (int table = 0; table < 3; table++) {
            int t = table;
            Check.due("not turned so far", true, () -> x.turn(t));
        }
    }

    private static void sumsAddUp() {
        Pivotforge x = new Pivotforge();
        int[][] numbers = new int[5][6];
        for (int i = 0; i < 60; i++) {
            int row = i % 4;
            int column = i * 7 % 5;
            int amount = 31 * i % 2001 - 1000;
            x.sale(2, row, column, amount);
            numbers[row][column] += amount;
            numbers[row][5] += amount;
            numbers[4][column] += amount;
            numbers[4][5] += amount;
        }
        for (int row = 0; row < 5; row++) {
            for (int column = 0; column < 6; column++) {
                int r = row;
                int c = column;
                Check.due("sum", numbers[r][c], () -> x.sum(2, r, c));
                Check.due("sumFromSales", numbers[r][c], () -> x.sumFromSales(2, r, c));
            }
        }
    }

    private static void sumsKeepTheirTable() {
        Pivotforge x = new Pivotforge();
        x.sale(0, 1, 1, 10);
        x.sale(1, 1, 1, 200);
        x.sale(2, 1, 1, 300);
        Check.due("sum 0", 10, () -> x.sum(0, 1, 1));
        Check.due("sum 1", 200, () -> x.sum(1, 1, 5));
        Check.due("sumFromSales 2", 300, () -> x.sumFromSales(2, 4, 1));
        Check.due("sumFromSales 0", 10, () -> x.sumFromSales(0, 4, 5));
    }

    private static void sumsFollowTheTurn() {
        Pivotforge x = new Pivotforge();
        x.sale(0, 1, 2, 30);
        x.turn(0);
        Check.due("sum turned", 30, () -> x.sum(0, 2, 1));
        Check.due("sum turned", 0, () -> x.sum(0, 1, 2));
        Check.due("sum turned", 30, () -> x.sum(0, 5, 4));
        Check.due("sumFromSales turned", 30, () -> x.sumFromSales(0, 2, 1));
        Check.due("sumFromSales turned", 0, () -> x.sumFromSales(0, 1, 2));
        Check.due("sumFromSales turned", 30, () -> x.sumFromSales(0, 5, 1));
        Check.due("another table is not turned", 0, () -> x.sum(1, 4, 5));
        Check.outOfBounds("sum turned", () -> x.sum(0, 4, 5));
        Check.outOfBounds("sumFromSales turned", () -> x.sumFromSales(0, 4, 5));
        x.turn(0);
        Check.due("sum turned back", 30, () -> x.sum(0, 1, 2));
    }

    private static void sumsRefuseWrongInputs() {
        Pivotforge x = new Pivotforge();
        x.turn(1);
        int[][] strange = {{-1, 0, 0}, {3, 0, 0}, {0, -1, 0}, {0, 5, 0}, {0, 0, -1}, {0, 0, 6},
            {1, -1, 0}, {1, 6, 0}, {1, 0, -1}, {1, 0, 5}, {Integer.MIN_VALUE, 0, 0},
            {0, Integer.MAX_VALUE, 0}, {0, 0, Integer.MIN_VALUE}, {3, 9, 9}};
        for (int[] s : strange) {
            Check.outOfBounds("sum", () -> x.sum(s[0], s[1], s[2]));
            Check.outOfBounds("sumFromSales", () -> x.sumFromSales(s[0], s[1], s[2]));
        }
    }

    /** A house with sales of 1 in the entry 0, 0 of table 0. */
    private static Pivotforge withSales(int count) {
        Pivotforge x = new Pivotforge();
        for (int i = 0; i < count; i++) {
            int number = i;
            Check.due("sale", number, () -> x.sale(0, 0, 0, 1));
        }
        return x;
    }
}
