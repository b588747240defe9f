import java.util.ArrayList;
import java.util.List;

/**
 * Every call that throws, in an empty house, a used one, and full ones: the exception that its
 * throws clause names first is thrown, and all that the house answers stays.
 */
public final class RefusedCallsTest {
    private static final String SENTENCE = "A call that throws an exception changes nothing; "
            + "if several exceptions apply, the one that its throws clause names first is thrown.";
    private static final Class<IndexOutOfBoundsException> BOUNDS = IndexOutOfBoundsException.class;
    private static final Class<IllegalArgumentException> ARGUMENT = IllegalArgumentException.class;
    private static final Class<IllegalStateException> STATE = IllegalStateException.class;
    private static final int[][] STRANGE_ROWS_AND_COLUMNS = {{-1, 0}, {5, 0}, {0, -1}, {0, 6},
        {Integer.MIN_VALUE, 0}, {Integer.MAX_VALUE, 5}, {0, Integer.MIN_VALUE},
        {4, Integer.MAX_VALUE}, {-1, -1}, {5, 6}, {6, 5}};

    private final List<String> names = new ArrayList<>();
    private final List<Class<? extends RuntimeException>> dues = new ArrayList<>();
    private final List<Watch.Calls> calls = new ArrayList<>();

    private RefusedCallsTest() {
    }

    public static void main(String[] args) {
        Check.sentence(0, SENTENCE, RefusedCallsTest::inAnEmptyHouse);
        Check.sentence(0, SENTENCE, RefusedCallsTest::inAUsedHouse);
        Check.sentence(0, SENTENCE, RefusedCallsTest::inAFullHouse);
        Check.sentence(0, SENTENCE, RefusedCallsTest::inAnAlmostFullHouse);
        Check.end();
    }

    private static void inAnEmptyHouse() {
        RefusedCallsTest refused = new RefusedCallsTest();
        refused.strangeArguments(-1);
        refused.add("takeBack(0)", BOUNDS, x -> x.takeBack(0));
        refused.add("lift(0)", BOUNDS, x -> x.lift(0));
        refused.noReport(0, 0);
        refused.noReport(2, 3);
        refused.changeNothing("empty", Pivotforge::new);
    }

    /** Table 1 is turned; sales 0 and 3 are taken back; embargo 1 is lifted, 2 has ended. */
    private static void inAUsedHouse() {
        RefusedCallsTest refused = new RefusedCallsTest();
        refused.strangeArguments(1);
        refused.takenBackAndEnded(12, 7);
        refused.noReport(1, 0);
        refused.changeNothing("used", RefusedCallsTest::used);
    }

    /** 120 sales and 40 embargoes, all marked, hour 10000; table 2 is turned. */
    private static void inAFullHouse() {
        RefusedCallsTest refused = new RefusedCallsTest();
        refused.strangeArguments(2);
        refused.takenBackAndEnded(120, 40);
        refused.add("sale, the 121st", STATE, x -> x.sale(0, 0, 0, 1));
        refused.add("sale, the 121st", STATE, x -> x.sale(2, 3, 4, -1000));
        refused.add("embargo, the 41st", STATE, x -> x.embargo(0, 0, 0, 1, 1));
        refused.add("embargo, the 41st", STATE, x -> x.embargo(2, 5, 4, 3, 100));
        refused.add("pass(1) at 10000", STATE, x -> x.pass(1));
        refused.add("pass(100) at 10000", STATE, x -> x.pass(100));
        refused.noReport(1, 3);
        refused.changeNothing("full", () -> full(120, 40, 10000, 30));
    }

    private static void inAnAlmostFullHouse() {
        RefusedCallsTest refused = new RefusedCallsTest();
        refused.strangeArguments(2);
        refused.takenBackAndEnded(119, 39);
        refused.add("pass(2) at 9999", STATE, x -> x.pass(2));
        refused.add("pass(100) at 9999", STATE, x -> x.pass(100));
        refused.noReport(1, 3);
        refused.changeNothing("almost full", () -> full(119, 39, 9999, 29));
    }

    // ---- the houses

    private static Pivotforge used() {
        Pivotforge x = new Pivotforge();
        x.turn(1);
        for (int i = 0; i < 12; i++) {
            x.sale(i % 3, i % 4, i % 5, 100 * i - 450);
        }
        x.takeBack(0);
        x.takeBack(3);
        x.embargo(0, 1, 2, 2, 30);
        x.embargo(0, 1, 1, 3, 30);
        x.embargo(1, 5, 3, 1, 4);
        x.embargo(1, 2, 3, 3, 20);
        x.embargo(2, 4, 5, 1, 100);
        x.embargo(2, 0, 0, 2, 8);
        x.lift(1);
        x.pass(7);
        Houses.buildAll(x);
        x.embargo(1, 0, 0, 1, 100);
        x.lift(6);
        Houses.mark(x, new int[][] {{0, 0}, {0, 1}, {1, 0}, {1, 1}, {3, 3}, {4, 5}});
        return x;
    }

    /** Made by 307 calls at most; sales 0 and 3 are taken back, embargoes 1 and 2 don't last. */
    private static Pivotforge full(int sales, int embargoes, int hour, int marks) {
        Pivotforge x = new Pivotforge();
        x.turn(2);
        for (int i = 0; i < sales; i++) {
            x.sale(i % 3, i / 3 % 4, i / 12 % 5, 16 * i - 1000);
        }
        x.takeBack(0);
        x.takeBack(3);
        for (int i = 0; i < 6; i++) {
            x.embargo(i % 3, i % 5, i % 4, 1 + i % 3, i == 2 ? 1 : 100);
        }
        x.lift(1);
        Houses.passTo(x, 0, hour - 20);
        for (int i = 6; i < embargoes; i++) {
            x.embargo(i % 3, i % 5, i % 4, 1 + i / 3 % 3, 40 + i);
        }
        x.pass(20);
        for (int i = 0; i < 12; i++) {
            if (i != 7) {
                x.build(i / 4, i % 4);
            }
        }
        for (int i = 0; i < marks; i++) {
            x.mark(i / 6, i % 6);
        }
        return x;
    }

    // ---- the calls

    private void add(String name, Class<? extends RuntimeException> due, Watch.Calls call) {
        names.add(name);
        dues.add(due);
        calls.add(call);
    }

    private void changeNothing(String house, Houses.Maker maker) {
        List<String> before = Watch.of(maker);
        for (int i = 0; i < calls.size(); i++) {
            int one = i;
            String name = names.get(i) + ", " + house + " house";
            Watch.same(name, before, Watch.after(maker,
                    x -> Check.raises(name, dues.get(one), () -> calls.get(one).on(x))));
        }
    }

    private void takenBackAndEnded(int sales, int embargoes) {
        add("takeBack(0) again", STATE, x -> x.takeBack(0));
        add("takeBack(3) again", STATE, x -> x.takeBack(3));
        add("takeBack of the next sale", BOUNDS, x -> x.takeBack(sales));
        add("lift(1), lifted", STATE, x -> x.lift(1));
        add("lift(2), ended", STATE, x -> x.lift(2));
        add("lift of the next embargo", BOUNDS, x -> x.lift(embargoes));
    }

    private void noReport(int table, int level) {
        add("read of no report", STATE, x -> x.read(table, level));
        add("shown of no report", STATE, x -> x.shown(table, level, 0, 0));
        add("shown of no report", STATE, x -> x.shown(table, level, 4, 4));
    }

    /** What every house refuses, whatever it holds. */
    private void strangeArguments(int turnedTable) {
        strangeSales();
        strangeEmbargoes();
        for (int table : Check.outside(0, 2)) {
            add("turn(" + table + ")", BOUNDS, x -> x.turn(table));
            strangeEntry(table, 0, 0);
            strangeReport(table, 0);
        }
        for (int level : Check.outside(0, 3)) {
            strangeReport(0, level);
            add("isEmbargoed, level " + level, BOUNDS, x -> x.isEmbargoed(0, 0, 0, level));
        }
        for (int[] e : STRANGE_ROWS_AND_COLUMNS) {
            for (int table = 0; table < 3; table++) {
                boolean turned = table == turnedTable;
                strangeEntry(table, turned ? e[1] : e[0], turned ? e[0] : e[1]);
            }
            add("mark" + of(e), BOUNDS, x -> x.mark(e[0], e[1]));
            add("isKnown" + of(e), BOUNDS, x -> x.isKnown(e[0], e[1]));
            add("isKnownBySolving" + of(e), BOUNDS, x -> x.isKnownBySolving(e[0], e[1]));
        }
        for (int hours : Check.outside(1, 100)) {
            add("pass(" + hours + ")", ARGUMENT, x -> x.pass(hours));
        }
    }

    private void strangeSales() {
        for (int amount : new int[] {1, 1001}) {
            for (int table : Check.outside(0, 2)) {
                add("sale, table", BOUNDS, x -> x.sale(table, 0, 0, amount));
            }
            for (int place : Check.outside(0, 3)) {
                add("sale, place", BOUNDS, x -> x.sale(0, place, 0, amount));
            }
            for (int goods : Check.outside(0, 4)) {
                add("sale, goods", BOUNDS, x -> x.sale(0, 0, goods, amount));
            }
        }
        for (int amount : Check.outside(-1000, 1000)) {
            add("sale, amount", ARGUMENT, x -> x.sale(0, 3, 4, amount));
        }
        for (int sale : new int[] {-1, 120, Integer.MIN_VALUE, Integer.MAX_VALUE}) {
            add("takeBack(" + sale + ")", BOUNDS, x -> x.takeBack(sale));
        }
    }

    private void strangeEmbargoes() {
        for (int level : Check.outside(1, 3)) {
            add("embargo, level", ARGUMENT, x -> x.embargo(0, 4, 4, level, 1));
            add("embargo, table and level", BOUNDS, x -> x.embargo(3, 4, 4, level, 1));
            add("embargo, entry and level", BOUNDS, x -> x.embargo(0, -1, 4, level, 1));
        }
        for (int hours : Check.outside(1, 100)) {
            add("embargo, hours", ARGUMENT, x -> x.embargo(0, 4, 4, 3, hours));
            add("embargo, table and hours", BOUNDS, x -> x.embargo(-1, 4, 4, 3, hours));
            add("embargo, entry and hours", BOUNDS, x -> x.embargo(0, 4, -1, 3, hours));
        }
        for (int embargo : new int[] {-1, 40, Integer.MIN_VALUE, Integer.MAX_VALUE}) {
            add("lift(" + embargo + ")", BOUNDS, x -> x.lift(embargo));
        }
    }

    private void strangeReport(int table, int level) {
        String report = "(" + table + ", " + level + ")";
        add("build" + report, BOUNDS, x -> x.build(table, level));
        add("isBuilt" + report, BOUNDS, x -> x.isBuilt(table, level));
        add("read" + report, BOUNDS, x -> x.read(table, level));
        add("shown" + report, BOUNDS, x -> x.shown(table, level, 0, 0));
        add("why" + report, BOUNDS, x -> x.why(table, level, 0, 0));
    }

    private void strangeEntry(int table, int first, int second) {
        String entry = "(" + table + ", " + first + ", " + second + ")";
        add("sum" + entry, BOUNDS, x -> x.sum(table, first, second));
        add("sumFromSales" + entry, BOUNDS, x -> x.sumFromSales(table, first, second));
        add("embargo" + entry, BOUNDS, x -> x.embargo(table, first, second, 3, 100));
        add("isEmbargoed" + entry, BOUNDS, x -> x.isEmbargoed(table, first, second, 0));
        add("shown" + entry, BOUNDS, x -> x.shown(table, 0, first, second));
        add("why" + entry, BOUNDS, x -> x.why(table, 0, first, second));
    }

    private static String of(int[] entry) {
        return "(" + entry[0] + ", " + entry[1] + ")";
    }
}
