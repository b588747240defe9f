/** Promises 11 to 16: reports. */
public final class ReportsTest {
    private static final int[][] STRANGE_REPORTS = {{-1, 0}, {3, 0}, {0, -1}, {0, 4},
        {Integer.MIN_VALUE, 0}, {Integer.MAX_VALUE, 0}, {0, Integer.MIN_VALUE},
        {0, Integer.MAX_VALUE}};
    private static final int[][] STRANGE_ENTRIES = {{0, -1, 0}, {0, 5, 0}, {0, 0, -1}, {0, 0, 6},
        {1, -1, 0}, {1, 6, 0}, {1, 0, -1}, {1, 0, 5}, {0, Integer.MAX_VALUE, 0},
        {0, 0, Integer.MIN_VALUE}};

    public static void main(String[] args) {
        buildCountsWhatItHides();
        buildCoversByRisingRowsAndColumns();
        buildTakesTheFewestNewlyHidden();
        buildCoversNoneThatIsOnARound();
        buildIsOneTableAndLevel();
        buildingAnewIsNoDrop();
        buildRefusesWrongInputs();
        reportsAreDroppedBySales();
        shownTellsNumbers();
        shownRefusesWrongInputs();
        whyTellsWhat();
        whyRefusesWrongInputs();
        theTurnOfATableTurnsItsReports();
        readCountsSales();
        readRefusesWrongInputs();
        droppedCountsDrops();
        Check.end();
    }

    private static void buildCountsWhatItHides() {
        Pivotforge x = new Pivotforge();
        Check.due("build without embargoes", 0, () -> x.build(0, 0));
        x.embargo(0, 1, 2, 2, 3);
        Check.due("build below the level", 4, () -> x.build(0, 0));
        Check.due("build below the level", 4, () -> x.build(0, 1));
        Check.due("build at the level", 0, () -> x.build(0, 2));
        Check.due("build above the level", 0, () -> x.build(0, 3));
        Check.due("build another table", 0, () -> x.build(1, 0));
        x.pass(3);
        Check.due("build when its hour has come", 0, () -> x.build(0, 0));
        Pivotforge all = new Pivotforge();
        for (int i = 0; i < 30; i++) {
            all.embargo(0, i / 6, i % 6, 3, 9);
        }
        Check.due("build with all embargoed", 30, () -> all.build(0, 2));
    }

    /** Of all covers with the fewest newly hidden the lowest row's is taken, then the lowest column's. */
    private static void buildCoversByRisingRowsAndColumns() {
        hides("one in the corner", new int[][] {{0, 0}}, new int[][] {{0, 1}, {1, 0}, {1, 1}});
        hides("one elsewhere", new int[][] {{3, 4}}, new int[][] {{3, 0}, {0, 4}, {0, 0}});
        hides("one in the first row", new int[][] {{0, 3}}, new int[][] {{0, 0}, {1, 3}, {1, 0}});
        hides("one in the first column", new int[][] {{2, 0}}, new int[][] {{2, 1}, {0, 0}, {0, 1}});
        hides("the total of all", new int[][] {{4, 5}}, new int[][] {{4, 0}, {0, 5}, {0, 0}});
        hides("two of a row", new int[][] {{1, 4}, {1, 2}}, new int[][] {{0, 2}, {0, 4}});
        hides("two of a column", new int[][] {{3, 2}, {1, 2}}, new int[][] {{1, 0}, {3, 0}});
    }

    private static void buildTakesTheFewestNewlyHidden() {
        hides("two that share covers with totals", new int[][] {{1, 3}, {4, 5}},
                new int[][] {{1, 5}, {4, 3}});
        hides("a third that closes the round", new int[][] {{2, 2}, {2, 4}, {3, 4}},
                new int[][] {{3, 2}});
        hides("fewer in a higher row", new int[][] {{0, 0}, {3, 3}, {3, 0}},
                new int[][] {{0, 3}});
        hides("the second covered by what the first took", new int[][] {{0, 0}, {1, 1}},
                new int[][] {{0, 1}, {1, 0}});
        hides("a second that needs two more", new int[][] {{0, 0}, {2, 2}},
                new int[][] {{0, 2}, {2, 0}});
        hides("a last one with the covers of the first", new int[][] {{0, 0}, {0, 1}, {4, 5}},
                new int[][] {{1, 0}, {1, 1}, {0, 5}, {4, 0}});
    }

    private static void buildCoversNoneThatIsOnARound() {
        hides("a round of four", new int[][] {{0, 0}, {0, 5}, {4, 0}, {4, 5}}, new int[][] {});
        hides("a round of six", new int[][] {{0, 0}, {0, 1}, {1, 1}, {1, 2}, {2, 2}, {2, 0}},
                new int[][] {});
    }

    /** Embargoes are told in the order given; the table is once as it is and once turned. */
    private static void hides(String what, int[][] embargoed, int[][] covered) {
        for (int turned = 0; turned <= 1; turned++) {
            Pivotforge x = new Pivotforge();
            int[][] want = new int[5][6];
            for (int[] e : embargoed) {
                want[e[0]][e[1]] = Pivotforge.EMBARGOED;
                x.embargo(2, e[0], e[1], 1, 1);
            }
            for (int[] e : covered) {
                want[e[0]][e[1]] = Pivotforge.COVERED;
            }
            boolean isTurned = turned == 1 && x.turn(2);
            Check.due(what + ", build", embargoed.length + covered.length, () -> x.build(2, 0));
            for (int row = 0; row < 5; row++) {
                for (int column = 0; column < 6; column++) {
                    int first = isTurned ? column : row;
                    int second = isTurned ? row : column;
                    Check.due(what + ", why", want[row][column], () -> x.why(2, 0, first, second));
                }
            }
        }
    }

    private static void buildIsOneTableAndLevel() {
        Pivotforge x = new Pivotforge();
        x.build(1, 2);
        for (int table = 0; table < 3; table++) {
            for (int level = 0; level < 4; level++) {
                int t = table;
                int l = level;
                Check.due("isBuilt", t == 1 && l == 2, () -> x.isBuilt(t, l));
            }
        }
    }

    private static void buildingAnewIsNoDrop() {
        Pivotforge x = new Pivotforge();
        x.build(0, 0);
        x.build(0, 0);
        Check.due("built anew", true, () -> x.isBuilt(0, 0));
        Check.due("dropped", 0, x::dropped);
        x.sale(0, 0, 0, 1);
        Check.due("dropped once", 1, x::dropped);
    }

    private static void buildRefusesWrongInputs() {
        Pivotforge x = new Pivotforge();
        for (int[] s : STRANGE_REPORTS) {
            Check.outOfBounds("build", () -> x.build(s[0], s[1]));
            Check.outOfBounds("isBuilt", () -> x.isBuilt(s[0], s[1]));
        }
        for (int table = 0; table < 3; table++) {
            for (int level = 0; level < 4; level++) {
                int t = table;
                int l = level;
                Check.due("nothing is built", false, () -> x.isBuilt(t, l));
            }
        }
    }

    private static void reportsAreDroppedBySales() {
        Pivotforge x = new Pivotforge();
        buildAll(x);
        x.sale(1, 0, 0, 0);
        standsOnly(x, 0, 2);
        Check.due("dropped by a sale", 4, x::dropped);
        x.build(1, 3);
        x.build(1, 0);
        x.takeBack(0);
        standsOnly(x, 0, 2);
        Check.due("dropped by taking back", 6, x::dropped);
    }

    private static void shownTellsNumbers() {
        Pivotforge x = new Pivotforge();
        x.sale(0, 1, 2, 30);
        x.sale(0, 1, 3, 12);
        x.sale(0, 3, 2, -5);
        x.sale(1, 1, 2, 500);
        x.embargo(0, 1, 2, 2, 3);
        x.build(0, 1);
        x.build(0, 2);
        x.build(1, 0);
        for (int[] e : new int[][] {{1, 2}, {1, 0}, {0, 2}, {0, 0}}) {
            Check.due("shown, hidden", Pivotforge.HIDDEN, () -> x.shown(0, 1, e[0], e[1]));
        }
        Check.due("shown", 12, () -> x.shown(0, 1, 1, 3));
        Check.due("shown, a row's total", 42, () -> x.shown(0, 1, 1, 5));
        Check.due("shown, a column's total", 25, () -> x.shown(0, 1, 4, 2));
        Check.due("shown, all", 37, () -> x.shown(0, 1, 4, 5));
        Check.due("shown to the level", 30, () -> x.shown(0, 2, 1, 2));
        Check.due("shown of another table", 500, () -> x.shown(1, 0, 1, 2));
    }

    private static void shownRefusesWrongInputs() {
        Pivotforge x = new Pivotforge();
        x.turn(1);
        for (int[] s : STRANGE_REPORTS) {
            Check.outOfBounds("shown, report", () -> x.shown(s[0], s[1], 0, 0));
        }
        for (int[] s : STRANGE_ENTRIES) {
            Check.outOfBounds("shown, entry before no report", () -> x.shown(s[0], 0, s[1], s[2]));
        }
        Check.illegalState("shown, no report", () -> x.shown(0, 0, 0, 0));
        x.build(0, 0);
        x.build(1, 0);
        for (int[] s : STRANGE_ENTRIES) {
            Check.outOfBounds("shown, entry", () -> x.shown(s[0], 0, s[1], s[2]));
        }
        Check.illegalState("shown, no report of the level", () -> x.shown(0, 1, 0, 0));
        x.sale(0, 0, 0, 1);
        Check.illegalState("shown, a dropped report", () -> x.shown(0, 0, 0, 0));
    }

    private static void whyTellsWhat() {
        Pivotforge x = new Pivotforge();
        Check.due("why, no report", Pivotforge.UNBUILT, () -> x.why(0, 0, 1, 1));
        x.embargo(0, 1, 1, 2, 5);
        x.embargo(0, 0, 0, 1, 5);
        x.build(0, 0);
        x.build(0, 1);
        Check.due("why, embargoed", Pivotforge.EMBARGOED, () -> x.why(0, 0, 1, 1));
        Check.due("why, embargoed", Pivotforge.EMBARGOED, () -> x.why(0, 0, 0, 0));
        Check.due("why, covered", Pivotforge.COVERED, () -> x.why(0, 0, 1, 0));
        Check.due("why, covered", Pivotforge.COVERED, () -> x.why(0, 1, 0, 0));
        Check.due("why, shown", Pivotforge.SHOWN, () -> x.why(0, 1, 4, 5));
        x.pass(5);
        Check.due("why, dropped", Pivotforge.UNBUILT, () -> x.why(0, 1, 1, 1));
        x.build(0, 0);
        Check.due("why, no more embargoed", Pivotforge.SHOWN, () -> x.why(0, 0, 1, 1));
    }

    private static void whyRefusesWrongInputs() {
        Pivotforge x = new Pivotforge();
        x.turn(1);
        for (int[] s : STRANGE_REPORTS) {
            Check.outOfBounds("why, report", () -> x.why(s[0], s[1], 0, 0));
        }
        for (int[] s : STRANGE_ENTRIES) {
            Check.outOfBounds("why, entry", () -> x.why(s[0], 0, s[1], s[2]));
        }
    }

    private static void theTurnOfATableTurnsItsReports() {
        Pivotforge x = new Pivotforge();
        x.sale(0, 2, 4, 9);
        x.embargo(0, 1, 3, 1, 5);
        x.build(0, 0);
        x.turn(0);
        Check.due("shown turned", 9, () -> x.shown(0, 0, 4, 2));
        Check.due("shown turned", 9, () -> x.shown(0, 0, 5, 4));
        Check.due("why turned", Pivotforge.EMBARGOED, () -> x.why(0, 0, 3, 1));
        Check.due("why turned", Pivotforge.SHOWN, () -> x.why(0, 0, 1, 3));
        Check.due("nothing is dropped", 0, x::dropped);
    }

    private static void readCountsSales() {
        Pivotforge x = new Pivotforge();
        x.build(0, 0);
        Check.due("read none", 0, () -> x.read(0, 0));
        x.sale(0, 0, 0, 1);
        x.sale(0, 3, 4, 0);
        x.sale(1, 0, 0, 1);
        x.sale(0, 0, 0, -1);
        x.embargo(0, 0, 0, 3, 5);
        x.build(0, 0);
        x.build(0, 3);
        x.build(1, 0);
        Check.due("read, embargoed or not", 3, () -> x.read(0, 0));
        Check.due("read", 3, () -> x.read(0, 3));
        Check.due("read another table", 1, () -> x.read(1, 0));
        x.takeBack(1);
        x.build(0, 0);
        Check.due("read, none taken back", 2, () -> x.read(0, 0));
    }

    private static void readRefusesWrongInputs() {
        Pivotforge x = new Pivotforge();
        for (int[] s : STRANGE_REPORTS) {
            Check.outOfBounds("read", () -> x.read(s[0], s[1]));
        }
        Check.illegalState("read, no report", () -> x.read(0, 0));
        x.build(0, 0);
        x.sale(0, 0, 0, 1);
        Check.illegalState("read, a dropped report", () -> x.read(0, 0));
    }

    private static void droppedCountsDrops() {
        Pivotforge x = new Pivotforge();
        buildAll(x);
        x.embargo(0, 0, 0, 2, 4);
        Check.due("dropped by an embargo", 2, x::dropped);
        x.build(0, 0);
        x.lift(0);
        Check.due("dropped by a lift", 3, x::dropped);
        x.embargo(1, 0, 0, 3, 4);
        buildAll(x);
        Check.due("dropped by an embargo", 6, x::dropped);
        x.pass(4);
        Check.due("dropped by an hour", 9, x::dropped);
        x.sale(2, 0, 0, 1);
        Check.due("dropped by a sale", 13, x::dropped);
        x.sale(2, 0, 0, 1);
        Check.due("no report is dropped twice", 13, x::dropped);
    }

    private static void buildAll(Pivotforge x) {
        for (int table = 0; table < 3; table++) {
            for (int level = 0; level < 4; level++) {
                x.build(table, level);
            }
        }
    }

    private static void standsOnly(Pivotforge x, int one, int other) {
        for (int table = 0; table < 3; table++) {
            for (int level = 0; level < 4; level++) {
                int t = table;
                int l = level;
                Check.due("isBuilt", t == one || t == other, () -> x.isBuilt(t, l));
            }
        }
    }
}
