import java.util.Random;

/**
 * Random runs of at most 512 calls, a wrong input now and then, on a Pivotforge and on the model.
 * Each run has its own weights of the calls, so that some come to the limits;
 * half of them have, after their first calls, few that drop reports.
 */
public final class ModelTest {
    private static final int RUNS = 3000;
    private static final int CALLS = 512;
    private static final int KINDS = 20;

    private final Random random;
    private final Pivotforge x = new Pivotforge();
    private final Model model = new Model();
    private final int[] weights = new int[KINDS];
    private final int wrongInputsIn;
    private final int mostHours;
    private final int mostTables;
    private final boolean isQuiet;

    private ModelTest(int seed) {
        random = new Random(seed);
        wrongInputsIn = random.nextBoolean() ? 15 : 100;
        mostHours = random.nextInt(4) == 0 ? 100 : 4;
        mostTables = 1 + random.nextInt(3);
        isQuiet = random.nextBoolean();
        for (int i = 0; i < KINDS; i++) {
            weights[i] = 1 + random.nextInt(3);
        }
        for (int i = 0; i < 3; i++) {
            weights[random.nextInt(KINDS)] += 15;
        }
    }

    public static void main(String[] args) {
        for (int seed = 0; seed < RUNS; seed++) {
            new ModelTest(seed).run(seed);
        }
        Check.end();
    }

    private void run(int seed) {
        for (int call = 0; call < CALLS; call++) {
            int kind = anyKind();
            while (isQuiet && call >= 100 && call % 16 != 0 && dropsReports(kind)) {
                kind = anyKind();
            }
            int[] a = {0, 0, 0, 0, 0};
            fillArguments(kind, a);
            String want = answer(true, kind, a);
            String got = answer(false, kind, a);
            if (!want.equals(got)) {
                Check.fail("seed " + seed + ", call " + call + " of kind " + kind + " with "
                        + java.util.Arrays.toString(a) + " answered " + got + ", due is " + want);
                return;
            }
        }
    }

    private static boolean dropsReports(int kind) {
        return kind == 0 || kind == 1 || kind == 5 || kind == 6 || kind == 8;
    }

    private int anyKind() {
        int all = 0;
        for (int weight : weights) {
            all += weight;
        }
        int at = random.nextInt(all);
        int kind = 0;
        while (at >= weights[kind]) {
            at -= weights[kind];
            kind++;
        }
        return kind;
    }

    /** A number below a bound, or just beside it. */
    private int below(int bound) {
        return random.nextInt(wrongInputsIn) > 0 ? random.nextInt(bound)
                : random.nextBoolean() ? -1 : bound;
    }

    private int anyTable() {
        return below(random.nextInt(8) > 0 ? mostTables : 3);
    }

    private void fillArguments(int kind, int[] a) {
        a[0] = anyTable();
        a[1] = below(4);
        a[2] = below(5);
        a[3] = below(2001) - 1000;
        if (kind == 1) {
            a[0] = below(model.salesTold() + 1);
        } else if (kind == 6) {
            a[0] = below(model.embargoesTold() + 1);
        } else if (kind == 8) {
            a[0] = 1 + below(mostHours);
        } else if (kind >= 15) {
            a[0] = below(5);
            a[1] = below(6);
        } else if (hasEntry(kind)) {
            boolean isOfReport = kind == 11 || kind == 12;
            fillEntry(a, isOfReport ? 2 : 1);
            a[3] = isOfReport ? a[3] : below(4);
            a[4] = 1 + below(random.nextBoolean() ? 100 : 10);
        }
    }

    private static boolean hasEntry(int kind) {
        return kind >= 3 && kind <= 5 || kind == 7 || kind == 11 || kind == 12;
    }

    private void fillEntry(int[] a, int at) {
        boolean columnFirst = model.isTurned(a[0]) != (random.nextInt(wrongInputsIn) == 0);
        a[at] = below(columnFirst ? 6 : 5);
        a[at + 1] = below(columnFirst ? 5 : 6);
    }

    private String answer(boolean ofModel, int kind, int[] a) {
        try {
            return ofModel ? ofModel(kind, a) : ofProgram(kind, a);
        } catch (RuntimeException e) {
            return e.getClass().getName();
        }
    }

    private String ofProgram(int kind, int[] a) {
        switch (kind) {
            case 0: return "" + x.sale(a[0], a[1], a[2], a[3]);
            case 1: return "" + x.takeBack(a[0]);
            case 2: return "" + x.turn(a[0]);
            case 3: return "" + x.sum(a[0], a[1], a[2]);
            case 4: return "" + x.sumFromSales(a[0], a[1], a[2]);
            case 5: return "" + x.embargo(a[0], a[1], a[2], a[3], a[4]);
            case 6: return "" + x.lift(a[0]);
            case 7: return "" + x.isEmbargoed(a[0], a[1], a[2], a[3]);
            case 8: return "" + x.pass(a[0]);
            case 9: return "" + x.build(a[0], a[1]);
            case 10: return "" + x.isBuilt(a[0], a[1]);
            case 11: return "" + x.shown(a[0], a[1], a[2], a[3]);
            case 12: return "" + x.why(a[0], a[1], a[2], a[3]);
            case 13: return "" + x.read(a[0], a[1]);
            case 14: return "" + x.dropped();
            case 15: return "" + x.mark(a[0], a[1]);
            case 16: return "" + x.isKnown(a[0], a[1]);
            case 17: return "" + x.isKnownBySolving(a[0], a[1]);
            case 18: return "" + x.cover();
            default: return "" + x.clear();
        }
    }

    private String ofModel(int kind, int[] a) {
        switch (kind) {
            case 0: return "" + model.sale(a[0], a[1], a[2], a[3]);
            case 1: return "" + model.takeBack(a[0]);
            case 2: return "" + model.turn(a[0]);
            case 3: return "" + model.sum(a[0], a[1], a[2]);
            case 4: return "" + model.sum(a[0], a[1], a[2]);
            case 5: return "" + model.embargo(a[0], a[1], a[2], a[3], a[4]);
            case 6: return "" + model.lift(a[0]);
            case 7: return "" + model.isEmbargoed(a[0], a[1], a[2], a[3]);
            case 8: return "" + model.pass(a[0]);
            case 9: return "" + model.build(a[0], a[1]);
            case 10: return "" + model.isBuilt(a[0], a[1]);
            case 11: return "" + model.shown(a[0], a[1], a[2], a[3]);
            case 12: return "" + model.why(a[0], a[1], a[2], a[3]);
            case 13: return "" + model.read(a[0], a[1]);
            case 14: return "" + model.dropped();
            case 15: return "" + model.mark(a[0], a[1]);
            case 16: return "" + model.isKnown(a[0], a[1]);
            case 17: return "" + model.isKnown(a[0], a[1]);
            case 18: return "" + model.cover();
            default: return "" + model.clear();
        }
    }
}
