import java.util.ArrayList;
import java.util.List;

/**
 * All that a house answers, as lines of text. A house answers 512 calls alone: so it is made again
 * for each part of what is looked at, by a maker with at most 360 calls.
 */
public final class Watch {
    /** A call, or several; what they answer is not looked at. */
    public interface Calls {
        void on(Pivotforge x);
    }

    private final List<String> seen = new ArrayList<>();

    private Watch() {
    }

    public static List<String> of(Houses.Maker maker) {
        return after(maker, x -> { });
    }

    /** What the house answers when the calls were made; what they throw is thrown. */
    public static List<String> after(Houses.Maker maker, Calls calls) {
        Watch watch = new Watch();
        for (int table = 0; table < 3; table++) {
            watch.sums(made(maker, calls), table);
            watch.embargoed(made(maker, calls), table);
            watch.shown(made(maker, calls), table);
            watch.why(made(maker, calls), table);
        }
        watch.desk(made(maker, calls));
        watch.marks(made(maker, calls));
        watch.sales(made(maker, calls));
        watch.embargoes(made(maker, calls));
        watch.hours(made(maker, calls));
        return watch.seen;
    }

    /** Tells the first difference. */
    public static void same(String what, List<String> want, List<String> got) {
        for (int i = 0; i < want.size(); i++) {
            String now = i < got.size() ? got.get(i) : "nothing";
            if (!want.get(i).equals(now)) {
                Check.fail(what + ": " + now + ", before it was " + want.get(i));
                return;
            }
        }
        Check.compare(what + ": answers", want.size(), got.size());
    }

    private static Pivotforge made(Houses.Maker maker, Calls calls) {
        Pivotforge x = maker.make();
        calls.on(x);
        return x;
    }

    private void see(String call, Check.IntCall answer) {
        try {
            seen.add(call + " = " + answer.run());
        } catch (RuntimeException e) {
            seen.add(call + " throws " + e.getClass().getSimpleName());
        }
    }

    private void seeWhether(String call, Check.BooleanCall answer) {
        see(call, () -> answer.run() ? 1 : 0);
    }

    private void sums(Pivotforge x, int table) {
        see("dropped", x::dropped);
        for (int i = 0; i < 36; i++) {
            int first = i / 6;
            int second = i % 6;
            String entry = "(" + table + ", " + first + ", " + second + ")";
            see("sum" + entry, () -> x.sum(table, first, second));
            see("sumFromSales" + entry, () -> x.sumFromSales(table, first, second));
        }
        seeWhether("turn " + table, () -> x.turn(table));
    }

    private void embargoed(Pivotforge x, int table) {
        for (int i = 0; i < 36 * 4; i++) {
            int level = i % 4;
            int first = i / 4 / 6;
            int second = i / 4 % 6;
            seeWhether("isEmbargoed(" + table + ", " + first + ", " + second + ", " + level + ")",
                    () -> x.isEmbargoed(table, first, second, level));
        }
    }

    private void shown(Pivotforge x, int table) {
        for (int i = 0; i < 36 * 4; i++) {
            int level = i % 4;
            int first = i / 4 / 6;
            int second = i / 4 % 6;
            see("shown(" + table + ", " + level + ", " + first + ", " + second + ")",
                    () -> x.shown(table, level, first, second));
        }
    }

    private void why(Pivotforge x, int table) {
        for (int i = 0; i < 36 * 4; i++) {
            int level = i % 4;
            int first = i / 4 / 6;
            int second = i / 4 % 6;
            see("why(" + table + ", " + level + ", " + first + ", " + second + ")",
                    () -> x.why(table, level, first, second));
        }
        for (int i = 0; i < 4; i++) {
            int level = i;
            String report = "(" + table + ", " + level + ")";
            see("read" + report, () -> x.read(table, level));
        }
    }

    private void desk(Pivotforge x) {
        for (int i = 0; i < 12; i++) {
            int table = i / 4;
            int level = i % 4;
            seeWhether("isBuilt(" + table + ", " + level + ")", () -> x.isBuilt(table, level));
        }
        for (int i = 0; i < 30; i++) {
            int row = i / 6;
            int column = i % 6;
            String entry = "(" + row + ", " + column + ")";
            seeWhether("isKnown" + entry, () -> x.isKnown(row, column));
            seeWhether("isKnownBySolving" + entry, () -> x.isKnownBySolving(row, column));
        }
        see("cover", x::cover);
        see("clear after it", x::clear);
    }

    private void marks(Pivotforge x) {
        for (int i = 0; i < 30; i++) {
            int row = i / 6;
            int column = i % 6;
            seeWhether("mark(" + row + ", " + column + ")", () -> x.mark(row, column));
        }
        see("clear", x::clear);
    }

    private void sales(Pivotforge x) {
        for (int i = 0; i <= Houses.MOST_SALES; i++) {
            int number = i;
            see("takeBack(" + number + ")", () -> x.takeBack(number));
        }
        see("dropped after it", x::dropped);
        see("sale", () -> x.sale(0, 0, 0, 1));
        see("dropped after it", x::dropped);
    }

    private void embargoes(Pivotforge x) {
        for (int i = 0; i <= Houses.MOST_EMBARGOES; i++) {
            int number = i;
            see("lift(" + number + ")", () -> x.lift(number));
            see("dropped after it", x::dropped);
        }
        see("embargo", () -> x.embargo(0, 0, 0, 3, 1));
        see("dropped after it", x::dropped);
    }

    /** Hours are passed, first many at once, up to the last one. */
    private void hours(Pivotforge x) {
        int[] many = {1, 1, 1, 1, 1, 5, 10, 20, 60};
        for (int hours : many) {
            see("pass(" + hours + ")", () -> x.pass(hours));
        }
        for (int i = 0; i < 100; i++) {
            see("pass(100)", () -> x.pass(100));
        }
        for (int i = 64; i > 0; i /= 2) {
            int hours = i;
            see("pass(" + hours + ")", () -> x.pass(hours));
        }
    }
}
