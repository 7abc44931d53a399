/** Promise 11: pass, and the six steps of an hour. */
public final class HourTest {
    public static void main(String[] args) {
        hoursGoBy();
        rain();
        firstOfTheLowest();
        edges();
        whichIsLowest();
        howMuchRuns();
        allAtOnce();
        damsWear();
        damsAreAheadOfDrains();
        drains();
        towns();
        Check.end();
    }

    private static void hoursGoBy() {
        FloodGrid grid = new FloodGrid();
        grid.pass(1);
        Check.same("hour", 1, grid.count(0));
        grid.pass(48);
        Check.same("hour", 49, grid.count(0));
        for (int no : new int[] {0, -1, 49, Integer.MIN_VALUE, Integer.MAX_VALUE}) {
            Check.argument("pass " + no, grid, () -> grid.pass(no));
        }
    }

    private static void rain() {
        FloodGrid grid = new FloodGrid();
        grid.setRain(0, 3);
        grid.setRain(1, 5);
        grid.setRain(11, 1);
        int[] due = {3, 8, 8, 8, 8, 8, 8, 8, 8, 8, 8, 9, 12, 17};
        for (int hour = 0; hour < due.length; hour++) {
            grid.pass(1);
            for (int at = 0; at < 64; at++) {
                Check.same("rain till hour " + hour, due[hour], grid.cell(at % 8, at / 8, 1));
            }
        }
        FloodGrid hill = new FloodGrid();
        hill.raise(4, 4, 50);
        hill.setRain(0, 6);
        hill.pass(1);
        Check.same("rain runs off in its own hour", 0, hill.cell(4, 4, 1));
        Check.same("to the left", 12, hill.cell(3, 4, 1));
    }

    /** Pours 10 on a cell of the flat plain and tells where 5 of it are behind an hour: 10 * x + y. */
    private static int runsTo(FloodGrid grid, int x, int y) {
        grid.pour(x, y, 10);
        grid.pass(1);
        Check.same("half stays", 5, grid.cell(x, y, 1));
        int to = -1;
        for (int at = 0; at < 64; at++) {
            if (grid.cell(at % 8, at / 8, 1) == 5 && at != 8 * y + x) {
                to = 10 * (at % 8) + at / 8;
            }
        }
        return to;
    }

    private static FloodGrid walled(int[]... places) {
        FloodGrid grid = new FloodGrid();
        for (int[] place : places) {
            grid.raise(place[0], place[1], 50);
        }
        return grid;
    }

    private static void firstOfTheLowest() {
        int[] left = {2, 3};
        int[] right = {4, 3};
        int[] above = {3, 2};
        Check.same("left first", 23, runsTo(walled(), 3, 3));
        Check.same("then right", 43, runsTo(walled(left), 3, 3));
        Check.same("then above", 32, runsTo(walled(left, right), 3, 3));
        Check.same("below last", 34, runsTo(walled(left, right, above), 3, 3));
        Check.same("no left at x 0", 13, runsTo(walled(), 0, 3));
        Check.same("no left and right at x 0", 2, runsTo(walled(new int[] {1, 3}), 0, 3));
        Check.same("no right at x 7", 72, runsTo(walled(new int[] {6, 3}), 7, 3));
        Check.same("below at x 7", 74, runsTo(walled(new int[] {6, 3}, new int[] {7, 2}), 7, 3));
        Check.same("no above at y 0", 31, runsTo(walled(new int[] {2, 0}, new int[] {4, 0}), 3, 0));
        Check.same("no below at y 7", 36, runsTo(walled(new int[] {2, 7}, new int[] {4, 7}), 3, 7));
        Check.same("corner", 10, runsTo(walled(), 0, 0));
        Check.same("to the corner", 0, runsTo(walled(), 1, 0));
        Check.same("to the corner from below", 0, runsTo(walled(new int[] {1, 1}), 0, 1));
        Check.same("last corner", 67, runsTo(walled(), 7, 7));
    }

    /** Pits at the corners draw no water over the edges of the plain. */
    private static void edges() {
        for (int[] place : new int[][] {{3, 0}, {4, 7}, {0, 3}, {7, 4}}) {
            FloodGrid grid = new FloodGrid();
            for (int[] pit : new int[][] {{0, 0}, {7, 0}, {0, 7}, {7, 7}, {7, 2}, {0, 5}, {7, 3}, {0, 4}}) {
                if (pit[0] != place[0] || Math.abs(pit[1] - place[1]) > 1) {
                    grid.raise(pit[0], pit[1], 0);
                }
            }
            grid.pour(place[0], place[1], 9);
            grid.pass(1);
            Check.same("what stays", 5, grid.cell(place[0], place[1], 1));
            Check.same("cells with water", 2, grid.count(2));
            Check.same("they hang together", 1, grid.count(8));
        }
    }

    private static void whichIsLowest() {
        FloodGrid grid = new FloodGrid();
        grid.raise(3, 4, 9);
        grid.pour(3, 3, 10);
        grid.pass(1);
        Check.same("the lowest though it is last", 5, grid.cell(3, 4, 1));

        FloodGrid dammed = new FloodGrid();
        dammed.dam(2, 3, 1);
        Check.same("a dam is part of the crest", 43, runsTo(dammed, 3, 3));

        FloodGrid wet = new FloodGrid();
        wet.pour(2, 3, 1);
        Check.same("water is part of the crest", 43, runsTo(wet, 3, 3));

        FloodGrid low = walled(new int[] {4, 3}, new int[] {3, 2}, new int[] {3, 4});
        low.raise(2, 3, 5);
        low.pour(2, 3, 3);
        low.dam(2, 3, 7);
        low.pour(3, 3, 10);
        low.pass(1);
        Check.same("the dam where it is more than the level: 20 over 12", 6, low.cell(3, 3, 1));
        Check.same("behind that dam", 7, low.cell(2, 3, 1));

        FloodGrid full = walled(new int[] {4, 3}, new int[] {3, 2}, new int[] {3, 4},
            new int[] {1, 3}, new int[] {2, 2}, new int[] {2, 4});
        full.raise(2, 3, 5);
        full.pour(2, 3, 9);
        full.dam(2, 3, 7);
        full.pour(3, 3, 10);
        full.pass(1);
        Check.same("the level where it is more than the dam: 20 over 14", 7, full.cell(3, 3, 1));
    }

    private static void howMuchRuns() {
        runs("half", 10, 0, 10, 5);
        runs("half, cut", 10, 0, 11, 5);
        runs("half of 3, cut", 10, 0, 3, 1);
        runs("half of 2", 10, 0, 2, 1);
        runs("half of 1 is none", 10, 0, 1, 0);
        runs("no more than its water", 50, 0, 4, 4);
        runs("no more than stands above its dam", 10, 8, 10, 2);
        runs("half where more stands above its dam", 10, 3, 10, 5);
        runs("none as high as its dam", 30, 10, 10, 0);
        runs("none below its dam", 30, 11, 10, 0);
        runs("1 above its dam", 30, 9, 10, 1);
        runs("none up", 0, 0, 9, 0);
        runs("none on the same level", 0, 0, 10, 0);
        runs("none 1 above", 0, 0, 11, 0);
        runs("half of 2 above", 0, 0, 12, 1);
        runs("half of it above a pit", 0, 5, 20, 5);
    }

    /** A cell among others that are 10 high. */
    private static void runs(String told, int height, int dam, int water, int due) {
        FloodGrid grid = new FloodGrid();
        grid.raise(5, 5, height);
        grid.dam(5, 5, dam);
        grid.pour(5, 5, water);
        grid.pass(1);
        Check.same(told + ": what stays", water - due, grid.cell(5, 5, 1));
        Check.same(told + ": what runs", due, grid.cell(4, 5, 1));
    }

    private static void allAtOnce() {
        FloodGrid grid = new FloodGrid();
        for (int x = 0; x < 8; x++) {
            grid.raise(x, 1, 50);
        }
        grid.raise(0, 0, 30);
        grid.raise(1, 0, 20);
        grid.raise(3, 0, 50);
        grid.pour(0, 0, 6);
        grid.pour(1, 0, 6);
        grid.pass(1);
        Check.same("36 over 26", 1, grid.cell(0, 0, 1));
        Check.same("all 6 went on, 5 came", 5, grid.cell(1, 0, 1));
        Check.same("6 came", 6, grid.cell(2, 0, 1));

        FloodGrid pit = new FloodGrid();
        pit.raise(3, 3, 0);
        for (int[] place : new int[][] {{2, 3}, {4, 3}, {3, 2}, {3, 4}}) {
            pit.pour(place[0], place[1], 4);
        }
        pit.pass(1);
        Check.same("from all sides by the crest before", 16, pit.cell(3, 3, 1));
        Check.same("no water is lost", 16, pit.count(1));
    }

    private static void damsWear() {
        FloodGrid grid = new FloodGrid();
        grid.dam(3, 3, 2);
        grid.pour(3, 3, 2);
        grid.dam(6, 6, 3);
        grid.pour(6, 6, 2);
        for (int hour = 1; hour <= 9; hour++) {
            grid.pass(1);
            Check.same("wear of hour " + hour, hour, grid.cell(3, 3, 3));
        }
        Check.same("still there", 2, grid.cell(3, 3, 2));
        grid.pour(3, 3, -1);
        grid.pass(1);
        Check.same("less water wears not", 9, grid.cell(3, 3, 3));
        grid.pour(3, 3, 1);
        grid.pass(1);
        Check.same("broken", 0, grid.cell(3, 3, 2));
        Check.same("wear of none", 0, grid.cell(3, 3, 3));
        Check.same("its water is still there", 2, grid.cell(3, 3, 1));
        Check.same("dams that broke", 1, grid.count(4));
        Check.same("dams", 1, grid.count(3));
        Check.same("wear of one that is higher than its water", 0, grid.cell(6, 6, 3));
        grid.pass(1);
        Check.same("it runs in the next hour", 1, grid.cell(3, 3, 1));
        grid.pass(10);
        Check.same("none breaks where none is", 1, grid.count(4));

        FloodGrid all = new FloodGrid();
        for (int at = 0; at < 64; at++) {
            all.dam(at % 8, at / 8, 3);
            all.pour(at % 8, at / 8, 3);
        }
        all.pass(9);
        Check.same("none broke", 64, all.count(3));
        all.pass(1);
        Check.same("all broke", 64, all.count(4));
        Check.same("none is left", 0, all.count(3));

        FloodGrid filled = new FloodGrid();
        filled.raise(2, 2, 0);
        filled.dam(2, 2, 4);
        filled.pour(3, 2, 4);
        filled.pass(1);
        Check.same("worn by what ran in", 1, filled.cell(2, 2, 3));
        FloodGrid emptied = new FloodGrid();
        emptied.dam(2, 2, 1);
        emptied.pour(2, 2, 3);
        emptied.pass(1);
        Check.same("worn behind the running", 1, emptied.cell(2, 2, 3));
    }

    private static void damsAreAheadOfDrains() {
        FloodGrid grid = new FloodGrid();
        grid.dam(3, 3, 2);
        grid.pour(3, 3, 2);
        grid.drain(3, 3, 9);
        grid.pass(1);
        Check.same("worn", 1, grid.cell(3, 3, 3));
        Check.same("drained", 0, grid.cell(3, 3, 1));
        Check.same("2 drained", 2, grid.count(5));
    }

    private static void drains() {
        FloodGrid grid = new FloodGrid();
        grid.raise(3, 3, 0);
        grid.pour(3, 3, 5);
        grid.drain(3, 3, 2);
        int[] water = {3, 1, 0, 0};
        int[] taken = {2, 4, 5, 5};
        for (int hour = 0; hour < 4; hour++) {
            grid.pass(1);
            Check.same("water behind the drain", water[hour], grid.cell(3, 3, 1));
            Check.same("drained in all", taken[hour], grid.count(5));
        }
        FloodGrid flat = new FloodGrid();
        flat.pour(3, 3, 10);
        flat.drain(3, 3, 9);
        flat.drain(2, 3, 1);
        flat.pass(1);
        Check.same("it runs ahead of the drains", 0, flat.cell(3, 3, 1));
        Check.same("and is drained where it came", 4, flat.cell(2, 3, 1));
        Check.same("in all", 6, flat.count(5));
    }

    private static void towns() {
        FloodGrid grid = new FloodGrid();
        grid.raise(3, 3, 0);
        grid.pour(3, 3, 3);
        grid.settle(3, 3, 40);
        int[] people = {26, 17, 11, 7, 4, 2, 1, 0, 0};
        int before = 40;
        for (int left : people) {
            Check.same("people who leave", before - left, grid.pass(1));
            Check.same("people who stay", left, grid.cell(3, 3, 5));
            before = left;
        }
        Check.same("who left in all", 40, grid.count(7));
        grid.settle(3, 3, 9);
        Check.same("in several hours", 9 - 1, grid.pass(3));
        Check.same("who left in all", 48, grid.count(7));

        town("2 of water", 2, 0, 0);
        town("3 of water", 3, 0, 4);
        town("4 of water, 1 drained", 4, 1, 4);
        town("4 of water, 2 drained", 4, 2, 0);

        FloodGrid reached = new FloodGrid();
        reached.raise(4, 4, 50);
        reached.pour(4, 4, 3);
        reached.settle(4, 4, 9);
        reached.settle(3, 4, 9);
        Check.same("by what ran in", 4, reached.pass(1));
        Check.same("there", 5, reached.cell(3, 4, 5));
        Check.same("not where it ran from", 9, reached.cell(4, 4, 5));
    }

    private static void town(String told, int water, int drain, int due) {
        FloodGrid grid = new FloodGrid();
        grid.raise(0, 7, 0);
        grid.pour(0, 7, water);
        grid.drain(0, 7, drain);
        grid.settle(0, 7, 9);
        Check.same(told, due, grid.pass(1));
    }
}
