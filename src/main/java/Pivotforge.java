/**
 * A report house: tables of sales with sums, embargoes and covers, reports for readers,
 * and a desk at which one tries what can be found.
 *
 * An entry is kept as one number, its row times COLUMNS and its column; a set of entries
 * as an int with one bit for each of the 30.
 */
public final class Pivotforge {
    public static final int NONE = -1;
    public static final int HIDDEN = -1000000000;
    public static final int SHOWN = 0, EMBARGOED = 1, COVERED = 2, UNBUILT = 3;

    private static final int TABLES = 3;
    private static final int LEVELS = 4;
    private static final int ROWS = 5;
    private static final int COLUMNS = 6;
    private static final int ENTRIES = 30;
    private static final int TOTAL_ROW = 4;
    private static final int TOTAL_COLUMN = 5;
    private static final int MOST_SALES = 120;
    private static final int MOST_AMOUNT = 1000;
    private static final int MOST_EMBARGOES = 40;
    private static final int MOST_HOURS = 100;
    private static final int LAST_HOUR = 10000;

    private final Table[] tables;
    private final Sale[] sales;
    private final Embargo[] embargoes;
    private final Equations equations;
    private int saleCount;
    private int embargoCount;
    private int now;
    private int droppedReports;
    private int marked;

    public Pivotforge() {
        tables = new Table[TABLES];
        for (int i = 0; i < TABLES; i++) {
            tables[i] = new Table();
        }
        sales = new Sale[MOST_SALES];
        embargoes = new Embargo[MOST_EMBARGOES];
        equations = new Equations();
    }

    // ---- sales and sums

    public int sale(int table, int place, int goods, int amount)
            throws IndexOutOfBoundsException, IllegalArgumentException, IllegalStateException {
        Table sold = tableAt(table);
        if (place < 0 || place >= TOTAL_ROW || goods < 0 || goods >= TOTAL_COLUMN) {
            throw new IndexOutOfBoundsException("no such place or goods");
        }
        if (amount < -MOST_AMOUNT || amount > MOST_AMOUNT) {
            throw new IllegalArgumentException("amount is out of range");
        }
        if (saleCount >= MOST_SALES) {
            throw new IllegalStateException("there are 120 sales");
        }
        int number = saleCount;
        sales[number] = new Sale(table, place, goods, amount);
        saleCount++;
        sold.enter(place, goods, amount);
        sold.standingSales++;
        dropBelow(sold, LEVELS);
        return number;
    }

    public int takeBack(int sale) throws IndexOutOfBoundsException, IllegalStateException {
        if (sale < 0 || sale >= saleCount) {
            throw new IndexOutOfBoundsException("no such sale");
        }
        Sale back = sales[sale];
        if (back.takenBack) {
            throw new IllegalStateException("the sale was taken back");
        }
        Table sold = tables[back.table];
        back.takenBack = true;
        sold.enter(back.place, back.goods, -back.amount);
        sold.standingSales--;
        dropBelow(sold, LEVELS);
        return back.amount;
    }

    public boolean turn(int table) throws IndexOutOfBoundsException {
        Table turning = tableAt(table);
        turning.turned = !turning.turned;
        return turning.turned;
    }

    public int sum(int table, int first, int second) throws IndexOutOfBoundsException {
        int entry = entryOfTable(table, first, second);
        return tables[table].sums[entry];
    }

    public int sumFromSales(int table, int first, int second) throws IndexOutOfBoundsException {
        int entry = entryOfTable(table, first, second);
        int total = 0;
        for (int i = 0; i < saleCount; i++) {
            if (sales[i].table == table && sales[i].countsIn(entry)) {
                total += sales[i].amount;
            }
        }
        return total;
    }

    // ---- embargoes and hours

    public int embargo(int table, int first, int second, int level, int hours)
            throws IndexOutOfBoundsException, IllegalArgumentException, IllegalStateException {
        int entry = entryOfTable(table, first, second);
        if (level < 1 || level >= LEVELS) {
            throw new IllegalArgumentException("level is out of range");
        }
        if (hours < 1 || hours > MOST_HOURS) {
            throw new IllegalArgumentException("hours is out of range");
        }
        if (embargoCount >= MOST_EMBARGOES) {
            throw new IllegalStateException("there are 40 embargoes");
        }
        int number = embargoCount;
        embargoes[number] = new Embargo(table, entry, level, now + hours);
        embargoCount++;
        dropBelow(tables[table], level);
        return number;
    }

    public int lift(int embargo) throws IndexOutOfBoundsException, IllegalStateException {
        if (embargo < 0 || embargo >= embargoCount) {
            throw new IndexOutOfBoundsException("no such embargo");
        }
        Embargo ending = embargoes[embargo];
        if (!ending.lastsAt(now)) {
            throw new IllegalStateException("the embargo does not last");
        }
        ending.lifted = true;
        dropBelow(tables[ending.table], ending.level);
        return ending.end - now;
    }

    public boolean isEmbargoed(int table, int first, int second, int level)
            throws IndexOutOfBoundsException {
        int entry = entryOfTable(table, first, second);
        refuseStrangeLevel(level);
        return contains(embargoedFor(table, level), entry);
    }

    public int pass(int hours) throws IllegalArgumentException, IllegalStateException {
        if (hours < 1 || hours > MOST_HOURS) {
            throw new IllegalArgumentException("hours is out of range");
        }
        if (now + hours > LAST_HOUR) {
            throw new IllegalStateException("it would be behind 10000");
        }
        int before = droppedReports;
        int then = now + hours;
        for (int i = 0; i < embargoCount; i++) {
            Embargo ending = embargoes[i];
            if (ending.lastsAt(now) && !ending.lastsAt(then)) {
                dropBelow(tables[ending.table], ending.level);
            }
        }
        now = then;
        return droppedReports - before;
    }

    // ---- reports

    public int build(int table, int level) throws IndexOutOfBoundsException {
        Report report = reportAt(table, level);
        int embargoed = embargoedFor(table, level);
        report.fill(tables[table], embargoed, Covers.around(embargoed));
        return Integer.bitCount(report.hidden);
    }

    public boolean isBuilt(int table, int level) throws IndexOutOfBoundsException {
        return reportAt(table, level).built;
    }

    public int shown(int table, int level, int first, int second)
            throws IndexOutOfBoundsException, IllegalStateException {
        Report report = reportAt(table, level);
        int entry = entryOfTable(table, first, second);
        if (!report.built) {
            throw new IllegalStateException("there is no report");
        }
        return contains(report.hidden, entry) ? HIDDEN : report.numbers[entry];
    }

    public int why(int table, int level, int first, int second) throws IndexOutOfBoundsException {
        Report report = reportAt(table, level);
        int entry = entryOfTable(table, first, second);
        if (!report.built) {
            return UNBUILT;
        }
        if (contains(report.embargoed, entry)) {
            return EMBARGOED;
        }
        return contains(report.hidden, entry) ? COVERED : SHOWN;
    }

    public int read(int table, int level) throws IndexOutOfBoundsException, IllegalStateException {
        Report report = reportAt(table, level);
        if (!report.built) {
            throw new IllegalStateException("there is no report");
        }
        return report.salesRead;
    }

    public int dropped() {
        return droppedReports;
    }

    // ---- the desk

    public boolean mark(int row, int column) throws IndexOutOfBoundsException {
        int entry = entryAt(row, column);
        marked ^= 1 << entry;
        return contains(marked, entry);
    }

    public int clear() {
        int count = Integer.bitCount(marked);
        marked = 0;
        return count;
    }

    public boolean isKnown(int row, int column) throws IndexOutOfBoundsException {
        int entry = entryAt(row, column);
        return !contains(marked, entry) || !Covers.isOnRound(marked, entry);
    }

    public boolean isKnownBySolving(int row, int column) throws IndexOutOfBoundsException {
        int entry = entryAt(row, column);
        return !contains(marked, entry) || equations.determine(marked, entry);
    }

    public int cover() {
        int before = Integer.bitCount(marked);
        marked = Covers.around(marked);
        return Integer.bitCount(marked) - before;
    }

    // ---- what the calls share

    private Table tableAt(int table) {
        if (table < 0 || table >= TABLES) {
            throw new IndexOutOfBoundsException("no such table");
        }
        return tables[table];
    }

    private Report reportAt(int table, int level) {
        Table reported = tableAt(table);
        refuseStrangeLevel(level);
        return reported.reports[level];
    }

    private static void refuseStrangeLevel(int level) {
        if (level < 0 || level >= LEVELS) {
            throw new IndexOutOfBoundsException("no such level");
        }
    }

    private int entryOfTable(int table, int first, int second) {
        return tableAt(table).turned ? entryAt(second, first) : entryAt(first, second);
    }

    private static int entryAt(int row, int column) {
        if (row < 0 || row >= ROWS || column < 0 || column >= COLUMNS) {
            throw new IndexOutOfBoundsException("no such entry");
        }
        return row * COLUMNS + column;
    }

    private static boolean contains(int set, int member) {
        return (set & 1 << member) != 0;
    }

    private int embargoedFor(int table, int level) {
        int embargoed = 0;
        for (int i = 0; i < embargoCount; i++) {
            Embargo one = embargoes[i];
            if (one.table == table && one.level > level && one.lastsAt(now)) {
                embargoed |= 1 << one.entry;
            }
        }
        return embargoed;
    }

    private void dropBelow(Table table, int level) {
        for (int i = 0; i < level; i++) {
            if (table.reports[i].built) {
                table.reports[i].built = false;
                droppedReports++;
            }
        }
    }

    private static final class Table {
        private final int[] sums = new int[ENTRIES];
        private final Report[] reports = new Report[LEVELS];
        private boolean turned;
        private int standingSales;

        private Table() {
            for (int i = 0; i < LEVELS; i++) {
                reports[i] = new Report();
            }
        }

        /** Four sums are kept, so that none has to be found from all sales when it is asked. */
        private void enter(int place, int goods, int amount) {
            sums[place * COLUMNS + goods] += amount;
            sums[place * COLUMNS + TOTAL_COLUMN] += amount;
            sums[TOTAL_ROW * COLUMNS + goods] += amount;
            sums[TOTAL_ROW * COLUMNS + TOTAL_COLUMN] += amount;
        }
    }

    private static final class Sale {
        private final int table;
        private final int place;
        private final int goods;
        private final int amount;
        private boolean takenBack;

        private Sale(int table, int place, int goods, int amount) {
            this.table = table;
            this.place = place;
            this.goods = goods;
            this.amount = amount;
        }

        private boolean countsIn(int entry) {
            int row = entry / COLUMNS;
            int column = entry % COLUMNS;
            return !takenBack
                    && (row == TOTAL_ROW || row == place)
                    && (column == TOTAL_COLUMN || column == goods);
        }
    }

    private static final class Embargo {
        private final int table;
        private final int entry;
        private final int level;
        private final int end;
        private boolean lifted;

        private Embargo(int table, int entry, int level, int end) {
            this.table = table;
            this.entry = entry;
            this.level = level;
            this.end = end;
        }

        private boolean lastsAt(int hour) {
            return !lifted && hour < end;
        }
    }

    /** Built again and again in the same object, so that no build takes new room. */
    private static final class Report {
        private final int[] numbers = new int[ENTRIES];
        private boolean built;
        private int embargoed;
        private int hidden;
        private int salesRead;

        private void fill(Table table, int nowEmbargoed, int nowHidden) {
            System.arraycopy(table.sums, 0, numbers, 0, ENTRIES);
            embargoed = nowEmbargoed;
            hidden = nowHidden;
            salesRead = table.standingSales;
            built = true;
        }
    }

    /** By rounds alone, so that Equations can tell the same in another way. */
    private static final class Covers {
        private static final int ROW_BITS = 63;
        private static final int MOST_NEWLY_HIDDEN = 3;

        private static int around(int embargoed) {
            int hidden = embargoed;
            for (int entry = 0; entry < ENTRIES; entry++) {
                if (contains(embargoed, entry) && !isOnRound(hidden, entry)) {
                    hidden |= fewestCovers(hidden, entry);
                }
            }
            return hidden;
        }

        /**
         * A round through an entry goes from its row, along the other entries, to its column:
         * so the columns that the row reaches without the entry tell whether there is one.
         */
        private static boolean isOnRound(int hidden, int entry) {
            int others = hidden & ~(1 << entry);
            int reached = columnsOf(others, entry / COLUMNS);
            for (int step = 0; step < ROWS; step++) {
                for (int row = 0; row < ROWS; row++) {
                    int columns = columnsOf(others, row);
                    if ((columns & reached) != 0) {
                        reached |= columns;
                    }
                }
            }
            return contains(reached, entry % COLUMNS);
        }

        private static int columnsOf(int entries, int row) {
            return entries >> row * COLUMNS & ROW_BITS;
        }

        private static int fewestCovers(int hidden, int entry) {
            int fewest = MOST_NEWLY_HIDDEN + 1;
            int best = 0;
            for (int row = 0; row < ROWS; row++) {
                for (int column = 0; column < COLUMNS; column++) {
                    if (row != entry / COLUMNS && column != entry % COLUMNS) {
                        int covers = cornersOf(entry, row, column);
                        int newlyHidden = Integer.bitCount(covers & ~hidden);
                        if (newlyHidden < fewest) {
                            fewest = newlyHidden;
                            best = covers;
                        }
                    }
                }
            }
            return best;
        }

        /** With these three the entry is on a round of four, so that it cannot be found. */
        private static int cornersOf(int entry, int row, int column) {
            int besides = entry / COLUMNS * COLUMNS + column;
            int below = row * COLUMNS + entry % COLUMNS;
            int across = row * COLUMNS + column;
            return 1 << besides | 1 << below | 1 << across;
        }
    }

    /**
     * One equation for each row and for each column, of the hidden entries. What the shown
     * entries add to it is known, whatever it is, so that only the factors are kept.
     */
    private static final class Equations {
        private static final int COUNT = ROWS + COLUMNS;

        private final int[][] factors = new int[COUNT][ENTRIES];

        private boolean determine(int hidden, int entry) {
            write(hidden);
            solve();
            for (int i = 0; i < COUNT; i++) {
                if (tellsOnly(i, entry)) {
                    return true;
                }
            }
            return false;
        }

        /** In each equation the parts stand against their total, which has the factor -1. */
        private void write(int hidden) {
            for (int entry = 0; entry < ENTRIES; entry++) {
                int row = entry / COLUMNS;
                int column = entry % COLUMNS;
                for (int i = 0; i < COUNT; i++) {
                    factors[i][entry] = 0;
                }
                if (contains(hidden, entry)) {
                    factors[row][entry] = column == TOTAL_COLUMN ? -1 : 1;
                    factors[ROWS + column][entry] = row == TOTAL_ROW ? -1 : 1;
                }
            }
        }

        /** Keeps each entry in one equation alone, as long as there are equations to spend. */
        private void solve() {
            int spent = 0;
            for (int entry = 0; entry < ENTRIES; entry++) {
                int chosen = unspentWith(entry, spent);
                if (chosen < COUNT) {
                    spent |= 1 << chosen;
                    removeFromOthers(entry, chosen);
                }
            }
        }

        /** COUNT stands for none, as no equation has that number. */
        private int unspentWith(int entry, int spent) {
            for (int i = 0; i < COUNT; i++) {
                if (!contains(spent, i) && factors[i][entry] != 0) {
                    return i;
                }
            }
            return COUNT;
        }

        /** All factors stay -1, 0 or 1, as each entry is in one row and one column. */
        private void removeFromOthers(int entry, int chosen) {
            int own = factors[chosen][entry];
            for (int i = 0; i < COUNT; i++) {
                int other = factors[i][entry];
                if (i != chosen && other != 0) {
                    for (int k = 0; k < ENTRIES; k++) {
                        factors[i][k] = factors[i][k] * own - factors[chosen][k] * other;
                    }
                }
            }
        }

        private boolean tellsOnly(int equation, int entry) {
            for (int k = 0; k < ENTRIES; k++) {
                if (k != entry && factors[equation][k] != 0) {
                    return false;
                }
            }
            return factors[equation][entry] != 0;
        }
    }
}
