import java.util.ArrayList;
import java.util.List;

/**
 * The document told once more, as plainly as can be and without any thought of speed: lists of
 * what was told, and everything asked is worked out from them. The face is that of Pivotforge.
 */
public final class Model {
    private final List<int[]> sales = new ArrayList<>();
    private final List<int[]> embargoes = new ArrayList<>();
    private final boolean[] turned = new boolean[3];
    private final int[][][][] reports = new int[3][4][][];
    private final int[][] reads = new int[3][4];
    private boolean[][] desk = new boolean[5][6];
    private int hour = 0;
    private int drops = 0;

    public int sale(int table, int place, int goods, int amount) {
        bounds(table, 3);
        bounds(place, 4);
        bounds(goods, 5);
        range(amount, -1000, 1000);
        state(sales.size() < 120);
        sales.add(new int[] {table, place, goods, amount, 1});
        drop(table, 4);
        return sales.size() - 1;
    }

    public int takeBack(int sale) {
        bounds(sale, sales.size());
        int[] one = sales.get(sale);
        state(one[4] == 1);
        one[4] = 0;
        drop(one[0], 4);
        return one[3];
    }

    public boolean turn(int table) {
        bounds(table, 3);
        turned[table] = !turned[table];
        return turned[table];
    }

    public int sum(int table, int first, int second) {
        int[] at = at(table, first, second);
        return number(table, at[0], at[1]);
    }

    public int embargo(int table, int first, int second, int level, int hours) {
        int[] at = at(table, first, second);
        range(level, 1, 3);
        range(hours, 1, 100);
        state(embargoes.size() < 40);
        embargoes.add(new int[] {table, at[0], at[1], level, hour + hours});
        drop(table, level);
        return embargoes.size() - 1;
    }

    public int lift(int embargo) {
        bounds(embargo, embargoes.size());
        int[] one = embargoes.get(embargo);
        int left = one[4] - hour;
        state(left > 0);
        one[4] = -1;
        drop(one[0], one[3]);
        return left;
    }

    public boolean isEmbargoed(int table, int first, int second, int level) {
        int[] at = at(table, first, second);
        bounds(level, 4);
        return embargoed(table, level)[at[0]][at[1]];
    }

    /** Hour by hour. */
    public int pass(int hours) {
        range(hours, 1, 100);
        state(hour + hours <= 10000);
        int before = drops;
        for (int i = 0; i < hours; i++) {
            hour++;
            for (int[] one : embargoes) {
                if (one[4] == hour) {
                    drop(one[0], one[3]);
                }
            }
        }
        return drops - before;
    }

    public int build(int table, int level) {
        bounds(table, 3);
        bounds(level, 4);
        boolean[][] embargoed = embargoed(table, level);
        boolean[][] hidden = covered(embargoed);
        int[][] report = new int[5][12];
        for (int r = 0; r < 5; r++) {
            for (int c = 0; c < 6; c++) {
                report[r][c] = hidden[r][c] ? Pivotforge.HIDDEN : number(table, r, c);
                report[r][6 + c] = embargoed[r][c] ? Pivotforge.EMBARGOED
                        : hidden[r][c] ? Pivotforge.COVERED : Pivotforge.SHOWN;
            }
        }
        reports[table][level] = report;
        reads[table][level] = 0;
        for (int[] one : sales) {
            reads[table][level] += one[0] == table ? one[4] : 0;
        }
        return count(hidden);
    }

    public boolean isBuilt(int table, int level) {
        bounds(table, 3);
        bounds(level, 4);
        return reports[table][level] != null;
    }

    public int shown(int table, int level, int first, int second) {
        bounds(table, 3);
        bounds(level, 4);
        int[] at = at(table, first, second);
        state(reports[table][level] != null);
        return reports[table][level][at[0]][at[1]];
    }

    public int why(int table, int level, int first, int second) {
        bounds(table, 3);
        bounds(level, 4);
        int[] at = at(table, first, second);
        return reports[table][level] == null ? Pivotforge.UNBUILT
                : reports[table][level][at[0]][6 + at[1]];
    }

    public int read(int table, int level) {
        bounds(table, 3);
        bounds(level, 4);
        state(reports[table][level] != null);
        return reads[table][level];
    }

    public int dropped() {
        return drops;
    }

    public boolean mark(int row, int column) {
        bounds(row, 5);
        bounds(column, 6);
        desk[row][column] = !desk[row][column];
        return desk[row][column];
    }

    public int clear() {
        int marks = count(desk);
        desk = new boolean[5][6];
        return marks;
    }

    public boolean isKnown(int row, int column) {
        bounds(row, 5);
        bounds(column, 6);
        return !desk[row][column] || found(desk, row, column);
    }

    public int cover() {
        int before = count(desk);
        desk = covered(desk);
        return count(desk) - before;
    }

    // ---- for those who choose arguments

    public int salesTold() {
        return sales.size();
    }

    public int embargoesTold() {
        return embargoes.size();
    }

    public boolean isTurned(int table) {
        return table >= 0 && table < 3 && turned[table];
    }

    private static void bounds(int index, int count) {
        if (index < 0 || index >= count) {
            throw new IndexOutOfBoundsException();
        }
    }

    private static void range(int number, int least, int most) {
        if (number < least || number > most) {
            throw new IllegalArgumentException();
        }
    }

    private static void state(boolean right) {
        if (!right) {
            throw new IllegalStateException();
        }
    }

    private int[] at(int table, int first, int second) {
        bounds(table, 3);
        int[] at = turned[table] ? new int[] {second, first} : new int[] {first, second};
        bounds(at[0], 5);
        bounds(at[1], 6);
        return at;
    }

    private int number(int table, int row, int column) {
        int number = 0;
        for (int[] one : sales) {
            boolean in = (row == 4 || row == one[1]) && (column == 5 || column == one[2]);
            number += one[0] == table && in ? one[3] * one[4] : 0;
        }
        return number;
    }

    private void drop(int table, int below) {
        for (int level = 0; level < below; level++) {
            drops += reports[table][level] == null ? 0 : 1;
            reports[table][level] = null;
        }
    }

    private boolean[][] embargoed(int table, int level) {
        boolean[][] embargoed = new boolean[5][6];
        for (int[] one : embargoes) {
            if (one[0] == table && one[3] > level && one[4] > hour) {
                embargoed[one[1]][one[2]] = true;
            }
        }
        return embargoed;
    }

    private static int count(boolean[][] entries) {
        int count = 0;
        for (boolean[] row : entries) {
            for (boolean entry : row) {
                count += entry ? 1 : 0;
            }
        }
        return count;
    }

    private static boolean[][] covered(boolean[][] first) {
        boolean[][] hidden = new boolean[5][];
        for (int r = 0; r < 5; r++) {
            hidden[r] = first[r].clone();
        }
        for (int r = 0; r < 5; r++) {
            for (int c = 0; c < 6; c++) {
                if (first[r][c] && found(hidden, r, c)) {
                    addCovers(hidden, r, c);
                }
            }
        }
        return hidden;
    }

    /** First for none newly hidden, then for one, and so on: the first row and column that do. */
    private static void addCovers(boolean[][] hidden, int row, int column) {
        for (int cost = 0; cost <= 3; cost++) {
            for (int r = 0; r < 5; r++) {
                for (int c = 0; c < 6; c++) {
                    int own = (hidden[row][c] ? 0 : 1) + (hidden[r][column] ? 0 : 1)
                            + (hidden[r][c] ? 0 : 1);
                    if (r != row && c != column && own == cost) {
                        hidden[row][c] = true;
                        hidden[r][column] = true;
                        hidden[r][c] = true;
                        return;
                    }
                }
            }
        }
    }

    /** Rows and columns are joined by the other hidden entries; found if its own two are not. */
    private static boolean found(boolean[][] hidden, int row, int column) {
        int[] group = {0, 1, 2, 3, 4, 5, 6, 7, 8, 9, 10};
        for (int r = 0; r < 5; r++) {
            for (int c = 0; c < 6; c++) {
                if (hidden[r][c] && (r != row || c != column)) {
                    join(group, group[r], group[5 + c]);
                }
            }
        }
        return group[row] != group[5 + column];
    }

    private static void join(int[] group, int one, int other) {
        for (int i = 0; i < group.length; i++) {
            group[i] = group[i] == other ? one : group[i];
        }
    }
}
