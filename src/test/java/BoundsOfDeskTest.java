/** Promises 17 to 21, sentence by sentence: the ends of all ranges, an empty and a full desk. */
public final class BoundsOfDeskTest {
    /** A call that is told an entry of the desk. */
    private interface DeskCall {
        boolean on(Pivotforge x, int row, int column);
    }

    public static void main(String[] args) {
        promise17();
        promise18();
        promise19();
        promise20();
        promise21();
        Document.allQuoted("Promise 17", "Promise 18", "Promise 19", "Promise 20",
                "Promise 21");
        Check.end();
    }

    private static void promise17() {
        Check.sentence(17, "Marks an entry at the desk, or marks it no more.",
                BoundsOfDeskTest::markMarksOneEntry);
        deskRange(17, Pivotforge::mark);
        Check.sentence(17, "Returns true if it is marked then.",
                BoundsOfDeskTest::markTellsWhetherItIsMarked);
        Check.sentence(17, "Throws `IndexOutOfBoundsException` if there is no such entry",
                () -> strangeEntries(Pivotforge::mark));
    }

    private static void promise18() {
        Check.sentence(18, "Takes all marks away.", BoundsOfDeskTest::clearLeavesNone);
        Check.sentence(18, "Returns how many there were.",
                BoundsOfDeskTest::clearReturnsFrom0To30);
    }

    private static void promise19() {
        Check.sentence(19, "Tells whether an entry is known if those that are marked are hidden: "
                + "it is not marked, or it can be found; found by rounds.",
                () -> knownOnEmptyAndFullDesks(Pivotforge::isKnown));
        deskRange(19, Pivotforge::isKnown);
        Check.sentence(19, "Throws `IndexOutOfBoundsException` if there is no such entry",
                () -> strangeEntries(Pivotforge::isKnown));
    }

    private static void promise20() {
        Check.sentence(20, "Tells the same, found by solving what is told of all rows and columns, "
                + "together, as equations of the hidden entries.",
                () -> knownOnEmptyAndFullDesks(Pivotforge::isKnownBySolving));
        deskRange(20, Pivotforge::isKnownBySolving);
        Check.sentence(20, "Throws `IndexOutOfBoundsException` if there is no such entry",
                () -> strangeEntries(Pivotforge::isKnownBySolving));
    }

    private static void promise21() {
        Check.sentence(21, "Covers what is marked: gone through as embargoed entries are, "
                + "with covers that are marked, too.", BoundsOfDeskTest::coverMarksItsCovers);
        Check.sentence(21, "Returns how many entries are newly marked.",
                BoundsOfDeskTest::coverReturnsHowManyAreNew);
    }

    private static void deskRange(int promise, DeskCall call) {
        Check.sentence(promise, "`row`: 0 to 4", () -> rows0To4(call));
        Check.sentence(promise, "`column`: 0 to 5", () -> columns0To5(call));
    }

    // ---- what three calls have

    /** The desk is never turned, whatever tables are. */
    private static void rows0To4(DeskCall call) {
        for (boolean turned : new boolean[] {false, true}) {
            Pivotforge x = withAllTables(turned);
            for (int r = 0; r <= 4; r++) {
                int row = r;
                Check.due("row " + row, true, () -> call.on(x, row, 5));
            }
            for (int row : Check.outside(0, 4)) {
                Check.outOfBounds("row " + row, () -> call.on(x, row, 0));
            }
        }
    }

    private static void columns0To5(DeskCall call) {
        for (boolean turned : new boolean[] {false, true}) {
            Pivotforge x = withAllTables(turned);
            for (int c = 0; c <= 5; c++) {
                int column = c;
                Check.due("column " + column, true, () -> call.on(x, 4, column));
            }
            for (int column : Check.outside(0, 5)) {
                Check.outOfBounds("column " + column, () -> call.on(x, 0, column));
            }
        }
    }

    /** On an empty desk, and on a full one. */
    private static void strangeEntries(DeskCall call) {
        for (Pivotforge x : new Pivotforge[] {withAllTables(false), withAllTables(true),
            Houses.withAllMarked()}) {
            int before = x.clear();
            if (before > 0) {
                Houses.markAll(x);
            }
            for (int row : Check.outside(0, 4)) {
                Check.outOfBounds("row", () -> call.on(x, row, 5));
                for (int column : Check.outside(0, 5)) {
                    Check.outOfBounds("column", () -> call.on(x, 4, column));
                    Check.outOfBounds("both", () -> call.on(x, row, column));
                }
            }
            Check.due("marks", before, x::clear);
        }
    }

    // ---- promise 17

    private static void markMarksOneEntry() {
        for (int i = 0; i < 30; i++) {
            int row = i / 6;
            int column = i % 6;
            Pivotforge x = new Pivotforge();
            Check.due("on an empty desk", true, () -> x.mark(row, column));
            Check.due("marks", 1, x::clear);
            Houses.markAll(x);
            Check.due("on a full desk", false, () -> x.mark(row, column));
            Check.due("marks", 29, x::clear);
            x.mark(row, column);
            for (int k = 0; k < 30; k++) {
                int r = k / 6;
                int c = k % 6;
                Check.due("mark of another", k != i, () -> x.mark(r, c));
            }
        }
    }

    private static void markTellsWhetherItIsMarked() {
        Pivotforge x = new Pivotforge();
        for (int round = 0; round < 6; round++) {
            boolean due = round % 2 == 0;
            for (int i = 0; i < 30; i++) {
                int row = i / 6;
                int column = i % 6;
                Check.due("mark(" + row + ", " + column + ")", due, () -> x.mark(row, column));
            }
        }
        Check.due("marked by a cover, first the entry", true, () -> x.mark(0, 0));
        x.cover();
        Check.due("marked by a cover", false, () -> x.mark(1, 1));
        x.clear();
        Check.due("after clear", true, () -> x.mark(0, 0));
    }

    // ---- promise 18

    private static void clearLeavesNone() {
        Pivotforge x = Houses.withAllMarked();
        x.clear();
        Check.due("cover when all are taken away", 0, x::cover);
        for (int i = 0; i < 30; i++) {
            Houses.dueKnown("when all are taken away", x, i / 6, i % 6, true);
        }
        for (int i = 0; i < 30; i++) {
            int row = i / 6;
            int column = i % 6;
            Check.due("mark when all are taken away", true, () -> x.mark(row, column));
        }
    }

    private static void clearReturnsFrom0To30() {
        Pivotforge x = new Pivotforge();
        Check.due("of an empty desk", 0, x::clear);
        x.mark(4, 5);
        Check.due("of one mark", 1, x::clear);
        Check.due("again", 0, x::clear);
        Houses.markAll(x);
        Check.due("of a full desk", 30, x::clear);
        Check.due("again", 0, x::clear);
        Houses.markAll(x);
        x.mark(0, 0);
        Check.due("of all but one", 29, x::clear);
        x.mark(4, 5);
        x.cover();
        Check.due("with covers", 4, x::clear);
    }

    // ---- promises 19 and 20

    private static void knownOnEmptyAndFullDesks(DeskCall call) {
        Pivotforge empty = new Pivotforge();
        Pivotforge full = Houses.withAllMarked();
        for (int i = 0; i < 30; i++) {
            int row = i / 6;
            int column = i % 6;
            Check.due("an empty desk", true, () -> call.on(empty, row, column));
            Check.due("a full desk", false, () -> call.on(full, row, column));
            empty.mark(row, column);
            Check.due("one marked", true, () -> call.on(empty, row, column));
            empty.mark(row, column);
            full.mark(row, column);
            Check.due("all but it marked", true, () -> call.on(full, row, column));
            full.mark(row, column);
        }
        for (int lone = 0; lone < 11; lone++) {
            knownInOneRowOrColumn(call, lone);
        }
    }

    /** A whole row or column (5 rows, then 6 columns) is found from the other ones. */
    private static void knownInOneRowOrColumn(DeskCall call, int lone) {
        Pivotforge x = new Pivotforge();
        for (int i = 0; i < 30; i++) {
            if (i / 6 == lone || i % 6 == lone - 5) {
                x.mark(i / 6, i % 6);
            }
        }
        for (int i = 0; i < 30; i++) {
            int row = i / 6;
            int column = i % 6;
            Check.due("a whole row or column", true, () -> call.on(x, row, column));
        }
        Houses.markAll(x);
        for (int i = 0; i < 30; i++) {
            int row = i / 6;
            int column = i % 6;
            boolean notMarked = row == lone || column == lone - 5;
            Check.due("all but it", notMarked, () -> call.on(x, row, column));
        }
    }

    // ---- promise 21

    private static void coverMarksItsCovers() {
        Pivotforge x = new Pivotforge();
        x.mark(4, 5);
        x.cover();
        for (int i = 0; i < 30; i++) {
            int row = i / 6;
            int column = i % 6;
            boolean hidden = (row == 4 || row == 0) && (column == 5 || column == 0);
            Houses.dueKnown("after cover", x, row, column, !hidden);
        }
        Check.due("a cover is a mark", false, () -> x.mark(0, 0));
        Check.due("what was covered is found again", 1, x::cover);
        Check.due("the same cover", false, () -> x.mark(0, 0));
        x.clear();
        x.mark(0, 0);
        Check.due("covers were marks, and are away", 3, x::cover);
    }

    private static void coverReturnsHowManyAreNew() {
        Pivotforge x = new Pivotforge();
        Check.due("of an empty desk", 0, x::cover);
        Check.due("no mark came", 0, x::clear);
        Houses.markAll(x);
        Check.due("of a full desk", 0, x::cover);
        x.mark(4, 5);
        Check.due("of all but one", 0, x::cover);
        Check.due("no mark came", 29, x::clear);
        Houses.mark(x, new int[][] {{0, 2}, {1, 0}, {2, 1}, {3, 5}, {4, 3}, {4, 4}});
        Check.due("of six", 9, x::cover);
        Check.due("again", 0, x::cover);
        Check.due("marks", 15, x::clear);
        for (int i = 0; i < 30; i++) {
            x.mark(i / 6, i % 6);
            Check.due("of one", 3, x::cover);
            Check.due("marks", 4, x::clear);
        }
    }

    /** An empty house whose tables are all turned, or none. */
    private static Pivotforge withAllTables(boolean turned) {
        Pivotforge x = new Pivotforge();
        for (int table = 0; turned && table < 3; table++) {
            x.turn(table);
        }
        return x;
    }
}
