/** Houses that several tests begin with, and what is told of them all at once. */
public final class Houses {
    public static final int MOST_SALES = 120;
    public static final int MOST_EMBARGOES = 40;

    private Houses() {
    }

    /** Tells for which tables and levels something is due. */
    public interface Reports {
        boolean have(int table, int level);
    }

    /** Makes a house, always alike. */
    public interface Maker {
        Pivotforge make();
    }

    /** As many sales of 1 in the entry 0, 0 of table 0. */
    public static Pivotforge withSales(int count) {
        Pivotforge x = new Pivotforge();
        for (int i = 0; i < count; i++) {
            int number = i;
            Check.due("sale " + i, number, () -> x.sale(0, 0, 0, 1));
        }
        return x;
    }

    /** As many embargoes of the entry 0, 0 of table 0, of level 1 and for 100 hours. */
    public static Pivotforge withEmbargoes(int count) {
        Pivotforge x = new Pivotforge();
        for (int i = 0; i < count; i++) {
            int number = i;
            Check.due("embargo " + i, number, () -> x.embargo(0, 0, 0, 1, 100));
        }
        return x;
    }

    /** An empty one, with table 1 turned or not. */
    public static Pivotforge withTable1(boolean turned) {
        Pivotforge x = new Pivotforge();
        if (turned) {
            Check.due("turn", true, () -> x.turn(1));
        }
        return x;
    }

    public static Pivotforge atHour(int hour) {
        Pivotforge x = new Pivotforge();
        passTo(x, 0, hour);
        return x;
    }

    public static void passTo(Pivotforge x, int now, int hour) {
        for (int i = now; i < hour; i += 100) {
            x.pass(Math.min(100, hour - i));
        }
    }

    /** A desk at which all 30 entries are marked. */
    public static Pivotforge withAllMarked() {
        Pivotforge x = new Pivotforge();
        markAll(x);
        return x;
    }

    public static void markAll(Pivotforge x) {
        for (int i = 0; i < 30; i++) {
            x.mark(i / 6, i % 6);
        }
    }

    public static void mark(Pivotforge x, int[]... entries) {
        for (int[] e : entries) {
            x.mark(e[0], e[1]);
        }
    }

    /** All twelve reports. */
    public static void buildAll(Pivotforge x) {
        for (int i = 0; i < 12; i++) {
            x.build(i / 4, i % 4);
        }
    }

    /** Twelve calls. */
    public static void dueReports(String what, Pivotforge x, Reports due) {
        for (int i = 0; i < 12; i++) {
            int table = i / 4;
            int level = i % 4;
            Check.due(what + ", isBuilt(" + table + ", " + level + ")", due.have(table, level),
                    () -> x.isBuilt(table, level));
        }
    }

    /** What is found by rounds and by solving. */
    public static void dueKnown(String what, Pivotforge x, int row, int column, boolean want) {
        String entry = "(" + row + ", " + column + ")";
        Check.due(what + ", isKnown" + entry, want, () -> x.isKnown(row, column));
        Check.due(what + ", isKnownBySolving" + entry, want,
                () -> x.isKnownBySolving(row, column));
    }
}
