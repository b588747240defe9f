import java.util.Random;

/**
 * What can be found, by isKnown and isKnownBySolving, against two other ways: rounds as the
 * document tells them, entry by entry, and the ranks of the equations over a large prime.
 */
public final class FindingTest {
    private static final long PRIME = 1000003;

    public static void main(String[] args) {
        Random random = new Random(7);
        for (int i = 0; i < 1500; i++) {
            int marks = random.nextInt(31);
            compare(randomEntries(random, marks), marks <= 12);
        }
        for (int i = 0; i < 1500; i++) {
            compare(randomEntries(random, 3 + random.nextInt(10)), true);
        }
        allOfTheLowestCorner();
        Check.end();
    }

    /** All sets of entries of three rows and three columns, the totals among them. */
    private static void allOfTheLowestCorner() {
        for (int set = 0; set < 512; set++) {
            boolean[][] hidden = new boolean[5][6];
            for (int i = 0; i < 9; i++) {
                hidden[2 + i / 3][3 + i % 3] = (set >> i & 1) == 1;
            }
            compare(hidden, true);
        }
    }

    private static boolean[][] randomEntries(Random random, int count) {
        boolean[][] hidden = new boolean[5][6];
        for (int i = 0; i < count; i++) {
            hidden[random.nextInt(5)][random.nextInt(6)] = true;
        }
        return hidden;
    }

    private static void compare(boolean[][] hidden, boolean alsoWalkRounds) {
        Pivotforge x = new Pivotforge();
        for (int row = 0; row < 5; row++) {
            for (int column = 0; column < 6; column++) {
                if (hidden[row][column]) {
                    x.mark(row, column);
                }
            }
        }
        int rank = rank(hidden);
        for (int row = 0; row < 5; row++) {
            for (int column = 0; column < 6; column++) {
                int r = row;
                int c = column;
                boolean known = !hidden[row][column] || isFoundByRank(hidden, row, column, rank);
                Check.due("isKnown, by ranks", known, () -> x.isKnown(r, c));
                Check.due("isKnownBySolving, by ranks", known, () -> x.isKnownBySolving(r, c));
                if (alsoWalkRounds && hidden[row][column]) {
                    Check.due("isKnown, by walking rounds", !hasRound(hidden, row, column), () -> x.isKnown(r, c));
                }
            }
        }
    }

    /** An unknown is told by equations just if they tell one less without it. */
    private static boolean isFoundByRank(boolean[][] hidden, int row, int column, int rank) {
        hidden[row][column] = false;
        int without = rank(hidden);
        hidden[row][column] = true;
        return without == rank - 1;
    }

    private static int rank(boolean[][] hidden) {
        long[][] a = new long[11][30];
        for (int row = 0; row < 5; row++) {
            for (int column = 0; column < 6; column++) {
                if (hidden[row][column]) {
                    a[row][row * 6 + column] = column < 5 ? 1 : PRIME - 1;
                    a[5 + column][row * 6 + column] = row < 4 ? 1 : PRIME - 1;
                }
            }
        }
        int rank = 0;
        for (int column = 0; column < 30 && rank < 11; column++) {
            int pivot = rank;
            while (pivot < 11 && a[pivot][column] == 0) {
                pivot++;
            }
            if (pivot < 11) {
                long[] chosen = a[pivot];
                a[pivot] = a[rank];
                a[rank] = chosen;
                clearBelow(a, rank, column);
                rank++;
            }
        }
        return rank;
    }

    private static void clearBelow(long[][] a, int pivot, int column) {
        for (int i = pivot + 1; i < a.length; i++) {
            long own = a[pivot][column];
            long other = a[i][column];
            for (int k = 0; k < 30; k++) {
                a[i][k] = Math.floorMod(a[i][k] * own - a[pivot][k] * other, PRIME);
            }
        }
    }

    /** The first step is along the row, so that the last one must come down the column. */
    private static boolean hasRound(boolean[][] hidden, int row, int column) {
        boolean[][] walked = new boolean[5][6];
        walked[row][column] = true;
        return walk(hidden, walked, new int[] {row, column, row, column, 1, 1});
    }

    /** at: the first entry, the one reached, how many, and whether the next is in the same row. */
    private static boolean walk(boolean[][] hidden, boolean[][] walked, int[] at) {
        boolean alongRow = at[5] == 1;
        if (at[4] >= 4 && !alongRow && at[3] == at[1]) {
            return true;
        }
        for (int i = 0; i < (alongRow ? 6 : 5); i++) {
            int row = alongRow ? at[2] : i;
            int column = alongRow ? i : at[3];
            if (hidden[row][column] && !walked[row][column]) {
                walked[row][column] = true;
                int[] next = {at[0], at[1], row, column, at[4] + 1, alongRow ? 0 : 1};
                if (walk(hidden, walked, next)) {
                    return true;
                }
                walked[row][column] = false;
            }
        }
        return false;
    }
}
