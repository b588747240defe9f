/** Promises 17 to 21: the desk. */
public final class DeskTest {
    private static final int[][] STRANGE = {{-1, 0}, {5, 0}, {0, -1}, {0, 6},
        {Integer.MIN_VALUE, 0}, {Integer.MAX_VALUE, 0}, {0, Integer.MIN_VALUE},
        {0, Integer.MAX_VALUE}};

    public static void main(String[] args) {
        markMarksAndUnmarks();
        theDeskRefusesWrongInputs();
        theDeskIsNeverTurned();
        clearCountsMarks();
        whatIsNotMarkedIsKnown();
        oneAloneInARowOrColumnIsKnown();
        roundsAreNotKnown();
        betweenTwoRoundsIsKnown();
        coverCoversWhatIsMarked();
        coverTakesOlderCoversAsMarks();
        theDeskIsNoTable();
        Check.end();
    }

    private static void markMarksAndUnmarks() {
        Pivotforge x = new Pivotforge();
        for (int row = 0; row < 5; row++) {
            for (int column = 0; column < 6; column++) {
                int r = row;
                int c = column;
                Check.due("mark", true, () -> x.mark(r, c));
                Check.due("mark no more", false, () -> x.mark(r, c));
                Check.due("mark again", true, () -> x.mark(r, c));
            }
        }
        Check.due("clear", 30, x::clear);
        Check.due("mark after clear", true, () -> x.mark(4, 5));
    }

    private static void theDeskRefusesWrongInputs() {
        Pivotforge x = new Pivotforge();
        for (int[] s : STRANGE) {
            Check.outOfBounds("mark", () -> x.mark(s[0], s[1]));
            Check.outOfBounds("isKnown", () -> x.isKnown(s[0], s[1]));
            Check.outOfBounds("isKnownBySolving", () -> x.isKnownBySolving(s[0], s[1]));
        }
        Check.due("nothing is marked", 0, x::clear);
    }

    private static void theDeskIsNeverTurned() {
        Pivotforge x = new Pivotforge();
        x.turn(0);
        x.turn(1);
        x.turn(2);
        Check.due("mark", true, () -> x.mark(4, 5));
        Check.outOfBounds("mark", () -> x.mark(5, 4));
        Check.outOfBounds("isKnown", () -> x.isKnown(5, 4));
        Check.outOfBounds("isKnownBySolving", () -> x.isKnownBySolving(5, 4));
    }

    private static void clearCountsMarks() {
        Pivotforge x = new Pivotforge();
        mark(x, new int[][] {{0, 0}, {0, 1}, {1, 0}, {1, 1}, {4, 5}});
        known(x, "marked", 0, 0, false);
        Check.due("clear", 5, x::clear);
        known(x, "cleared", 0, 0, true);
        Check.due("clear again", 0, x::clear);
    }

    private static void whatIsNotMarkedIsKnown() {
        Pivotforge x = new Pivotforge();
        mark(x, new int[][] {{1, 1}, {1, 2}, {2, 1}});
        known(x, "not marked, though on a round if it were", 2, 2, true);
        x.mark(2, 2);
        known(x, "marked", 2, 2, false);
        x.mark(2, 2);
        known(x, "marked no more", 2, 2, true);
    }

    private static void oneAloneInARowOrColumnIsKnown() {
        Pivotforge x = new Pivotforge();
        for (int row = 0; row < 5; row++) {
            for (int column = 0; column < 6; column++) {
                x.mark(row, column);
                known(x, "one alone", row, column, true);
                x.mark(row, column);
            }
        }
        for (int column = 0; column < 6; column++) {
            x.mark(4, column);
        }
        x.mark(0, 5);
        for (int column = 0; column < 6; column++) {
            known(x, "a row and one more", 4, column, true);
        }
        known(x, "one more", 0, 5, true);
    }

    private static void roundsAreNotKnown() {
        int[][][] rounds = {
            {{0, 0}, {0, 1}, {1, 1}, {1, 0}},
            {{0, 0}, {0, 5}, {4, 5}, {4, 0}},
            {{2, 3}, {2, 4}, {3, 4}, {3, 3}},
            {{0, 0}, {0, 1}, {1, 1}, {1, 2}, {2, 2}, {2, 0}},
            {{0, 0}, {0, 5}, {4, 5}, {4, 2}, {3, 2}, {3, 3}, {1, 3}, {1, 0}},
            {{0, 5}, {0, 4}, {1, 4}, {1, 3}, {2, 3}, {2, 2}, {3, 2}, {3, 1}, {4, 1}, {4, 5}},
        };
        for (int[][] round : rounds) {
            Pivotforge x = new Pivotforge();
            mark(x, round);
            for (int[] e : round) {
                known(x, "on a round", e[0], e[1], false);
            }
            x.mark(round[1][0], round[1][1]);
            for (int[] e : round) {
                known(x, "on a round that is open", e[0], e[1], true);
            }
        }
    }

    /** Two rounds that one entry joins: that one is found, as no round has it. */
    private static void betweenTwoRoundsIsKnown() {
        Pivotforge x = new Pivotforge();
        mark(x, new int[][] {{0, 0}, {0, 1}, {1, 0}, {1, 1}, {3, 3}, {3, 4}, {4, 3}, {4, 4}});
        x.mark(1, 4);
        known(x, "between two rounds", 1, 4, true);
        known(x, "on the first", 1, 1, false);
        known(x, "on the second", 3, 4, false);
        x.mark(3, 0);
        known(x, "joined twice", 1, 4, false);
        known(x, "joined twice", 3, 0, false);
    }

    private static void coverCoversWhatIsMarked() {
        covers("nothing", new int[][] {}, new int[][] {});
        covers("one", new int[][] {{0, 0}}, new int[][] {{0, 1}, {1, 0}, {1, 1}});
        covers("one elsewhere", new int[][] {{3, 4}}, new int[][] {{3, 0}, {0, 4}, {0, 0}});
        covers("the total of all", new int[][] {{4, 5}}, new int[][] {{4, 0}, {0, 5}, {0, 0}});
        covers("two with two more", new int[][] {{4, 5}, {1, 3}}, new int[][] {{1, 5}, {4, 3}});
        covers("two of a row", new int[][] {{1, 4}, {1, 2}}, new int[][] {{0, 2}, {0, 4}});
        covers("a round", new int[][] {{1, 4}, {1, 2}, {3, 2}, {3, 4}}, new int[][] {});
        covers("one more for the last", new int[][] {{2, 2}, {2, 4}, {3, 4}}, new int[][] {{3, 2}});
    }

    private static void covers(String what, int[][] marked, int[][] added) {
        Pivotforge x = new Pivotforge();
        mark(x, marked);
        Check.due(what + ", cover", added.length, x::cover);
        boolean[][] hidden = new boolean[5][6];
        for (int[] e : marked) {
            hidden[e[0]][e[1]] = true;
        }
        for (int[] e : added) {
            hidden[e[0]][e[1]] = true;
        }
        for (int row = 0; row < 5; row++) {
            for (int column = 0; column < 6; column++) {
                known(x, what, row, column, !hidden[row][column]);
            }
        }
        Check.due(what + ", cover again", 0, x::cover);
        Check.due(what + ", clear", marked.length + added.length, x::clear);
    }

    private static void coverTakesOlderCoversAsMarks() {
        Pivotforge x = new Pivotforge();
        x.mark(0, 0);
        Check.due("cover", 3, x::cover);
        x.mark(0, 0);
        Check.due("what is left is gone through", 1, x::cover);
        Check.due("marked now", false, () -> x.mark(0, 0));
    }

    private static void theDeskIsNoTable() {
        Pivotforge x = new Pivotforge();
        x.build(0, 0);
        x.mark(0, 0);
        x.cover();
        Check.due("a report does not see marks", Pivotforge.SHOWN, () -> x.why(0, 0, 0, 0));
        x.embargo(0, 4, 4, 1, 1);
        x.build(0, 0);
        Check.due("the desk does not see embargoes", 4, x::clear);
    }

    private static void mark(Pivotforge x, int[][] entries) {
        for (int[] e : entries) {
            x.mark(e[0], e[1]);
        }
    }

    private static void known(Pivotforge x, String what, int row, int column, boolean want) {
        Check.due(what + ", isKnown", want, () -> x.isKnown(row, column));
        Check.due(what + ", isKnownBySolving", want, () -> x.isKnownBySolving(row, column));
    }
}
