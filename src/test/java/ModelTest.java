/**
 * Long runs of calls, right and wrong ones, held against a second program of the document, which is written
 * for plainness: it makes a new plain for each hour, and counts afresh what it is asked.
 */
public final class ModelTest {
    private static final int RUNS = 60;
    private static final int CALLS = 512;

    private long seed = 20260;

    public static void main(String[] args) {
        ModelTest test = new ModelTest();
        for (int run = 0; run < RUNS; run++) {
            test.run(run);
        }
        Check.end();
    }

    private void run(int run) {
        FloodGrid grid = new FloodGrid();
        Model[] model = {new Model()};
        for (int call = 0; call < CALLS; call++) {
            int kind = next(20);
            int x = number(0, 7);
            int y = number(0, 7);
            int n = argument(kind);
            int m = number(0, 9);
            String told = "run " + run + ", call " + call + ", kind " + kind + " (" + x + ", " + y + ", " + n + ", "
                + m + ")";
            String due = answered(() -> ask(model, kind, x, y, n, m));
            String got = answered(() -> ask(grid, kind, x, y, n, m));
            if (!due.equals(got)) {
                Check.fail(told + " answered " + got + ", due is " + due);
                return;
            }
            if (model[0].digest() != grid.digest()) {
                Check.fail(told + " left another state");
                return;
            }
        }
    }

    private int next(int bound) {
        seed = seed * 6364136223846793005L + 1442695040888963407L;
        return (int) ((seed >>> 33) % bound);
    }

    /** Mostly from least to most, now and then just outside, or far. */
    private int number(int least, int most) {
        switch (next(60)) {
            case 0: return least - 1;
            case 1: return most + 1;
            case 2: return next(2) == 0 ? Integer.MIN_VALUE : Integer.MAX_VALUE;
            default: return least + next(most - least + 1);
        }
    }

    private int argument(int kind) {
        switch (kind) {
            case 0: return number(0, 50);
            case 1: case 2: return number(next(4) == 0 ? -99 : 0, 99);
            case 3: case 4: return number(0, 20);
            case 5: return number(0, 9);
            case 6: case 7: return number(0, 90);
            case 8: return number(0, 11);
            case 9: return number(0, 7);
            case 11: return number(0, 8);
            case 12: return number(1, next(6) == 0 ? 48 : 4);
            case 15: return number(1, 48);
            default: return number(1, 12);
        }
    }

    private interface Call {
        String answer();
    }

    private static String answered(Call call) {
        try {
            return call.answer();
        } catch (RuntimeException e) {
            return e.getClass().getName();
        }
    }

    private static String ask(FloodGrid grid, int kind, int x, int y, int n, int m) {
        switch (kind) {
            case 0: return "" + grid.raise(x, y, n);
            case 1: case 2: return "" + grid.pour(x, y, n);
            case 3: case 4: return "" + grid.dam(x, y, n);
            case 5: return "" + grid.drain(x, y, n);
            case 6: case 7: return "" + grid.settle(x, y, n);
            case 8: return "" + grid.setRain(n, m);
            case 9: return "" + grid.cell(x, y, n);
            case 10: return "" + grid.lake(x, y);
            case 11: return "" + grid.count(n);
            case 12: return "" + grid.pass(n);
            case 13: return "" + grid.floods(x, y);
            case 14: return "" + grid.breaks(x, y);
            case 15: return "" + grid.foresee(n, m);
            case 16: case 17: return "" + grid.holds(n);
            case 18: return "" + grid.advise(n);
            default: return "" + grid.mean();
        }
    }

    private static String ask(Model[] at, int kind, int x, int y, int n, int m) {
        Model model = at[0];
        switch (kind) {
            case 0: return "" + model.set(Model.HEIGHT, x, y, n, 50);
            case 1: case 2: return "" + model.pour(x, y, n);
            case 3: case 4: return "" + model.set(Model.DAM, x, y, n, 20);
            case 5: return "" + model.set(Model.DRAIN, x, y, n, 9);
            case 6: case 7: return "" + model.set(Model.PEOPLE, x, y, n, 90);
            case 8: return "" + model.setRain(n, m);
            case 9: return "" + model.cell(x, y, n);
            case 10: return "" + model.lake(x, y);
            case 11: return "" + model.count(n, 0);
            case 12:
                at[0] = model.after(hours(n, 48));
                return "" + (at[0].left - model.left);
            case 13: return "" + model.floods(x, y);
            case 14: return "" + model.breaks(x, y);
            case 15: return "" + model.after(hours(n, 48)).count(m, 1);
            case 16: case 17: return "" + model.holds(hours(n, 12));
            case 18: return "" + model.advise(hours(n, 12));
            default: return "" + model.mean();
        }
    }

    private static int hours(int hours, int most) {
        if (hours < 1 || hours > most) {
            throw new IllegalArgumentException();
        }
        return hours;
    }
}
