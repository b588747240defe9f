/** What the document says of embargoes and covers, sentence by sentence. */
public final class BoundsOfCoversTest {
    private static final boolean[] TURNED_OR_NOT = {false, true};

    public static void main(String[] args) {
        embargoes();
        finding();
        covers();
        Document.allQuoted("Embargoes and covers");
        Check.end();
    }

    private static void embargoes() {
        Check.sentence(0, "An embargo is of an entry, has a level from 1 to 3, and lasts until it "
                + "is lifted, or its hour has come; embargoes are numbered from 0, up to 40.",
                BoundsOfCoversTest::anEmbargoLastsUntilLiftedOrItsHour);
        Check.sentence(0, "An entry is embargoed for a level of readers if an embargo of it lasts "
                + "that has a greater level.", BoundsOfCoversTest::oneGreaterLevelIsEnough);
    }

    private static void finding() {
        Check.sentence(0, "In each row the entries of the columns 0 to 4 make together that of "
                + "the column 5; in each column those of the rows 0 to 3 make that of the row 4.",
                BoundsOfCoversTest::partsMakeTheirTotals);
        Check.sentence(0, "(So also the totals.)", BoundsOfCoversTest::totalsMakeTheTotalOfAll);
        Check.sentence(0, "If some entries are hidden, one of them can be found if its number "
                + "follows from those of the entries that are not hidden and from this, whatever "
                + "the sales were.", BoundsOfCoversTest::findingNeedsNoSales);
        Check.sentence(0, "A round is a row of four or more entries, none twice, each of which is "
                + "in the same row as the next one and in the same column as the one before, or "
                + "the other way round, by turns, the last one in the same row or column as the "
                + "first one, as the turn comes.", BoundsOfCoversTest::roundsHaveFourToTenEntries);
        Check.sentence(0, "none twice", BoundsOfCoversTest::noRoundGoesThereAndBack);
        Check.sentence(0, "(An entry that is hidden can be found just if no round of hidden "
                + "entries has it.)", BoundsOfCoversTest::roundsAndSolvingFindTheSame);
    }

    private static void covers() {
        Check.sentence(0, "What is hidden for a level of readers: first all that are embargoed "
                + "for it.", BoundsOfCoversTest::allThatAreEmbargoedAreHidden);
        Check.sentence(0, "Then these are gone through, by rising rows, and columns in each row",
                BoundsOfCoversTest::goneThroughByRisingRowsAndColumns);
        Check.sentence(0, "for one that can be found, as all is hidden by then, covers are added",
                BoundsOfCoversTest::noCoversForWhatIsOnARoundByThen);
        Check.sentence(0, "of all other rows and all other columns those two are taken by which "
                + "the fewest entries are newly hidden",
                BoundsOfCoversTest::theFewestAreNewlyHidden);
        Check.sentence(0, "of several the lowest row, of that the lowest column",
                BoundsOfCoversTest::theLowestRowThenTheLowestColumn);
        Check.sentence(0, "hidden are then the entry of its own row and that column, that of that "
                + "row and its own column, and that of that row and that column.",
                BoundsOfCoversTest::threeEntriesCoverOne);
    }

    private static void anEmbargoLastsUntilLiftedOrItsHour() {
        for (int level = 1; level <= 3; level++) {
            Pivotforge x = new Pivotforge();
            int readers = level - 1;
            x.embargo(2, 4, 5, level, 10);
            x.embargo(2, 0, 0, level, 10);
            x.pass(9);
            Check.due("an hour before", true, () -> x.isEmbargoed(2, 4, 5, readers));
            x.lift(1);
            Check.due("lifted", false, () -> x.isEmbargoed(2, 0, 0, readers));
            Check.due("not lifted", true, () -> x.isEmbargoed(2, 4, 5, readers));
            x.pass(1);
            Check.due("its hour has come", false, () -> x.isEmbargoed(2, 4, 5, readers));
        }
        Pivotforge y = Houses.withEmbargoes(40);
        Check.illegalState("up to 40", () -> y.embargo(0, 0, 0, 1, 1));
    }

    /** An embargo of a lower level, begun before or behind, takes nothing away from it. */
    private static void oneGreaterLevelIsEnough() {
        for (int[] levels : new int[][] {{1, 3}, {3, 1}, {2, 3}, {3, 3}}) {
            Pivotforge x = new Pivotforge();
            x.embargo(0, 2, 2, levels[0], 10);
            x.embargo(0, 2, 2, levels[1], 10);
            for (int r = 0; r < 4; r++) {
                int readers = r;
                Check.due("for level " + readers, readers < 3,
                        () -> x.isEmbargoed(0, 2, 2, readers));
            }
            x.lift(levels[0] == 3 ? 0 : 1);
            int left = levels[0] == 3 ? levels[1] : levels[0];
            for (int r = 0; r < 4; r++) {
                int readers = r;
                Check.due("when one is lifted, for level " + readers, readers < left,
                        () -> x.isEmbargoed(0, 2, 2, readers));
            }
        }
    }

    private static void partsMakeTheirTotals() {
        for (int row = 0; row < 5; row++) {
            for (int column = 0; column < 6; column++) {
                Pivotforge x = new Pivotforge();
                x.mark(row, column);
                Houses.dueKnown("one alone, from its row or its column", x, row, column, true);
                int otherRow = (row + 1) % 5;
                int otherColumn = (column + 1) % 6;
                x.mark(row, otherColumn);
                Houses.dueKnown("two in its row, from its column", x, row, column, true);
                x.mark(row, otherColumn);
                x.mark(otherRow, column);
                Houses.dueKnown("two in its column, from its row", x, row, column, true);
                x.mark(row, otherColumn);
                Houses.dueKnown("two in each, from the other ones", x, row, column, true);
                x.mark(otherRow, otherColumn);
                Houses.dueKnown("four", x, row, column, false);
            }
        }
    }

    /** The row 4 and the column 5 are found like all others, their common entry too. */
    private static void totalsMakeTheTotalOfAll() {
        Pivotforge x = new Pivotforge();
        Houses.mark(x, new int[][] {{4, 0}, {4, 1}, {4, 2}, {4, 3}, {4, 4}, {4, 5}});
        for (int column = 0; column < 6; column++) {
            Houses.dueKnown("the row 4", x, 4, column, true);
        }
        Houses.mark(x, new int[][] {{0, 5}, {1, 5}, {2, 5}, {3, 5}});
        for (int row = 0; row < 5; row++) {
            Houses.dueKnown("the column 5", x, row, 5, true);
        }
        x.mark(0, 0);
        for (int[] e : new int[][] {{0, 0}, {0, 5}, {4, 0}, {4, 5}}) {
            Houses.dueKnown("on a round of totals", x, e[0], e[1], false);
        }
        Houses.dueKnown("beside it", x, 1, 5, true);
        Houses.dueKnown("beside it", x, 4, 1, true);
    }

    /** Sales of nothing, or of which only one is hidden: numbers are not looked at. */
    private static void findingNeedsNoSales() {
        for (int amount : new int[] {0, 1000}) {
            Pivotforge x = new Pivotforge();
            x.sale(0, 1, 1, amount);
            for (int i = 0; i < 4; i++) {
                x.embargo(0, i / 2, i % 2, 1, 1);
            }
            Check.due("a round needs no covers", 4, () -> x.build(0, 0));
            x.lift(3);
            Check.due("three need one", 4, () -> x.build(0, 0));
            Check.due("the covered one", 2, () -> x.why(0, 0, 1, 1));
        }
    }

    private static void roundsHaveFourToTenEntries() {
        int[][][] rounds = {
            {{0, 0}, {0, 1}, {1, 1}, {1, 0}},
            {{3, 4}, {3, 5}, {4, 5}, {4, 4}},
            {{0, 0}, {0, 5}, {4, 5}, {4, 0}},
            {{0, 0}, {0, 1}, {1, 1}, {1, 2}, {2, 2}, {2, 0}},
            {{4, 5}, {4, 3}, {3, 3}, {3, 0}, {0, 0}, {0, 5}},
            {{0, 0}, {0, 1}, {1, 1}, {1, 2}, {2, 2}, {2, 3}, {3, 3}, {3, 0}},
            {{1, 5}, {1, 2}, {4, 2}, {4, 0}, {2, 0}, {2, 3}, {3, 3}, {3, 5}},
            {{0, 0}, {0, 1}, {1, 1}, {1, 2}, {2, 2}, {2, 3}, {3, 3}, {3, 4}, {4, 4}, {4, 0}},
            {{0, 5}, {0, 4}, {4, 4}, {4, 3}, {1, 3}, {1, 2}, {3, 2}, {3, 1}, {2, 1}, {2, 5}},
        };
        for (int[][] round : rounds) {
            String what = "a round of " + round.length;
            for (int[] open : round) {
                Pivotforge x = new Pivotforge();
                Houses.mark(x, round);
                for (int[] e : round) {
                    Houses.dueKnown(what, x, e[0], e[1], false);
                }
                x.mark(open[0], open[1]);
                for (int[] e : round) {
                    Houses.dueKnown(what + " that is open", x, e[0], e[1], true);
                }
            }
        }
    }

    /** Two rounds and a way from one to the other: who walks it there must walk it back. */
    private static void noRoundGoesThereAndBack() {
        Pivotforge x = new Pivotforge();
        int[][] one = {{0, 0}, {0, 1}, {1, 0}, {1, 1}};
        int[][] other = {{3, 4}, {3, 5}, {4, 4}, {4, 5}};
        Houses.mark(x, one);
        Houses.mark(x, other);
        int[][][] ways = {{{0, 4}}, {{3, 1}}, {{0, 2}, {3, 2}}, {{2, 0}, {2, 5}}};
        for (int[][] way : ways) {
            Houses.mark(x, way);
            for (int[] e : way) {
                Houses.dueKnown("the way", x, e[0], e[1], true);
            }
            for (int i = 0; i < 4; i++) {
                Houses.dueKnown("a round", x, one[i][0], one[i][1], false);
                Houses.dueKnown("a round", x, other[i][0], other[i][1], false);
            }
            Houses.mark(x, way);
        }
        Houses.mark(x, new int[][] {{0, 4}, {3, 1}});
        Houses.dueKnown("two ways make a round", x, 0, 4, false);
        Houses.dueKnown("two ways make a round", x, 3, 1, false);
    }

    /** All 512 sets of nine entries, at the ends of rows and columns. */
    private static void roundsAndSolvingFindTheSame() {
        int[] rows = {0, 2, 4};
        int[] columns = {0, 3, 5};
        for (int set = 0; set < 512; set++) {
            Pivotforge x = new Pivotforge();
            for (int i = 0; i < 9; i++) {
                if ((set >> i & 1) != 0) {
                    x.mark(rows[i / 3], columns[i % 3]);
                }
            }
            for (int i = 0; i < 9; i++) {
                int row = rows[i / 3];
                int column = columns[i % 3];
                Check.compare("set " + set + ", (" + row + ", " + column + ")",
                        x.isKnown(row, column), x.isKnownBySolving(row, column));
            }
        }
    }

    private static void allThatAreEmbargoedAreHidden() {
        for (int readers = 0; readers < 4; readers++) {
            int level = readers;
            Pivotforge x = new Pivotforge();
            for (int i = 0; i < 30; i++) {
                x.embargo(1, i / 6, i % 6, 1 + i % 3, 100);
            }
            x.build(1, level);
            for (int i = 0; i < 30; i++) {
                boolean embargoed = 1 + i % 3 > level;
                int row = i / 6;
                int column = i % 6;
                Check.due("why", embargoed, () -> x.why(1, level, row, column) == 1);
                Check.due("hidden", true,
                        () -> !embargoed || x.shown(1, level, row, column) == -1000000000);
            }
        }
    }

    /** In another order others would be hidden. */
    private static void goneThroughByRisingRowsAndColumns() {
        hides("not by columns first, nor by falling rows", new int[][] {{0, 1}, {0, 2}, {2, 0}},
                new int[][] {{0, 0}, {1, 1}, {1, 2}, {2, 1}});
        hides("not by falling columns", new int[][] {{0, 1}, {1, 0}, {2, 0}, {2, 2}},
                new int[][] {{0, 0}, {0, 2}, {1, 1}, {2, 1}});
        hides("not by falling columns", new int[][] {{0, 3}, {1, 1}, {2, 0}, {2, 2}},
                new int[][] {{0, 0}, {0, 1}, {0, 2}, {1, 3}, {2, 1}});
    }

    private static void noCoversForWhatIsOnARoundByThen() {
        hides("a round of four", new int[][] {{0, 0}, {0, 5}, {4, 0}, {4, 5}}, new int[][] {});
        hides("a round of ten", new int[][] {{0, 0}, {0, 1}, {1, 1}, {1, 2}, {2, 2}, {2, 3},
            {3, 3}, {3, 4}, {4, 4}, {4, 0}}, new int[][] {});
        hides("on a round by the covers of the first", new int[][] {{0, 0}, {0, 1}},
                new int[][] {{1, 0}, {1, 1}});
        hides("on a round by the covers of the first", new int[][] {{0, 0}, {1, 1}},
                new int[][] {{0, 1}, {1, 0}});
        hides("on a round with covers of several", new int[][] {{0, 2}, {1, 0}, {2, 1}, {3, 5},
            {4, 3}, {4, 4}}, new int[][] {{0, 0}, {0, 1}, {0, 3}, {0, 4}, {0, 5}, {1, 2}, {2, 0},
            {3, 0}, {4, 0}});
    }

    private static void theFewestAreNewlyHidden() {
        hides("one, though lower ones would need two", new int[][] {{3, 4}, {3, 5}, {4, 4}},
                new int[][] {{4, 5}});
        hides("two, though lower ones would need three", new int[][] {{3, 4}, {4, 5}},
                new int[][] {{3, 5}, {4, 4}});
        hides("two of a row", new int[][] {{3, 4}, {3, 5}}, new int[][] {{0, 4}, {0, 5}});
        hides("two of a column", new int[][] {{3, 5}, {4, 5}}, new int[][] {{3, 0}, {4, 0}});
        hides("none, as all others are hidden", allBut(2, 3), new int[][] {});
    }

    private static int[][] allBut(int row, int column) {
        int[][] others = new int[29][];
        int count = 0;
        for (int i = 0; i < 30; i++) {
            if (i / 6 != row || i % 6 != column) {
                others[count++] = new int[] {i / 6, i % 6};
            }
        }
        return others;
    }

    /** Each entry alone; and where a lower row has a higher column. */
    private static void theLowestRowThenTheLowestColumn() {
        for (int i = 0; i < 30; i++) {
            int row = i / 6;
            int column = i % 6;
            int low = row == 0 ? 1 : 0;
            int left = column == 0 ? 1 : 0;
            hides("one alone", new int[][] {{row, column}},
                    new int[][] {{row, left}, {low, column}, {low, left}});
        }
        hides("the row counts before the column", new int[][] {{0, 1}, {0, 2}, {2, 0}},
                new int[][] {{0, 0}, {1, 1}, {1, 2}, {2, 1}});
    }

    private static void threeEntriesCoverOne() {
        for (int i = 0; i < 30; i++) {
            int row = i / 6;
            int column = i % 6;
            Pivotforge x = new Pivotforge();
            x.mark(row, column);
            Check.due("cover", 3, x::cover);
            int known = 0;
            for (int k = 0; k < 30; k++) {
                known += x.isKnown(k / 6, k % 6) ? 1 : 0;
            }
            Check.compare("known", 26, known);
            Houses.dueKnown("itself", x, row, column, false);
            int low = row == 0 ? 1 : 0;
            int left = column == 0 ? 1 : 0;
            Houses.dueKnown("of its own row", x, row, left, false);
            Houses.dueKnown("of its own column", x, low, column, false);
            Houses.dueKnown("of neither", x, low, left, false);
        }
    }

    /** By a report of a table, straight and turned, and at the desk. */
    private static void hides(String what, int[][] embargoed, int[][] covered) {
        int[] due = new int[30];
        for (int[] e : embargoed) {
            due[e[0] * 6 + e[1]] = 1;
        }
        for (int[] e : covered) {
            due[e[0] * 6 + e[1]] = 2;
        }
        for (boolean turned : TURNED_OR_NOT) {
            Pivotforge x = Houses.withTable1(turned);
            for (int i = embargoed.length - 1; i >= 0; i--) {
                int[] e = embargoed[i];
                x.embargo(1, turned ? e[1] : e[0], turned ? e[0] : e[1], 3, 100);
            }
            Check.due(what + ", build", embargoed.length + covered.length, () -> x.build(1, 2));
            Check.due(what + ", build for level 3", 0, () -> x.build(1, 3));
            for (int i = 0; i < 30; i++) {
                int first = turned ? i % 6 : i / 6;
                int second = turned ? i / 6 : i % 6;
                Check.due(what + ", why", due[i], () -> x.why(1, 2, first, second));
            }
        }
        Pivotforge x = new Pivotforge();
        Houses.mark(x, embargoed);
        Check.due(what + ", cover", covered.length, x::cover);
        for (int i = 0; i < 30; i++) {
            int row = i / 6;
            int column = i % 6;
            boolean marked = due[i] != 0;
            Check.due(what + ", mark", !marked, () -> x.mark(row, column));
        }
    }
}
