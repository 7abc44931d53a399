/**
 * The boundary cases of what the document says under Terms, of the rain, the six steps of an hour, and promise 11:
 * each sentence, or part of one, that stands above a method is tested by that method.
 */
public final class HourEdgesTest {
    private static final int[] LEFT = {3, 4};
    private static final int[] RIGHT = {5, 4};
    private static final int[] ABOVE = {4, 3};
    private static final int[] BELOW = {4, 5};

    public static void main(String[] args) {
        hoursFrom0();
        tableWrapsAround();
        tableWrapsAroundForEver();
        rainOf0And9();
        rainFallsIntoAllCells();
        rainFallsAheadOfRunning();
        noWaterGivesNone();
        levelGreaterThanItsDam();
        ownDamOf20();
        lowestOfSeveral();
        lowestOfSeveralAtTheEdges();
        lowestWithoutSeveral();
        eachCellGivesToEachNeighbour();
        noNeighbourOverTheEdge();
        halfIsCut();
        ifItIsMore();
        noMoreThanAboveItsDam();
        byWhatWasBefore();
        damAsHighAsItsWater();
        brokenWithAWearOf10();
        noneAnyMore();
        noneIsNotWorn();
        drainsAsFarAsThereIsSome();
        drainOf0();
        waterOf3();
        waterOf3BehindTheDrains();
        aThirdCutAnd1();
        asFarAsThereAreSome();
        fullPlain();
        pass1And48();
        passTellsAllOfItsHours();
        Check.end();
    }

    // ---- "Time is told in hours, from 0." "The hour is 1 greater."

    private static void hoursFrom0() {
        FloodGrid grid = new FloodGrid();
        for (int hour = 0; hour <= 60; hour++) {
            Check.same("hours from 0", hour, grid.count(0));
            grid.pass(1);
        }
    }

    // ---- "A table tells for each of 12 hours (the hour by the remainder of 12) ..."

    private static FloodGrid tabled(int[] table) {
        FloodGrid grid = new FloodGrid();
        for (int hour = 0; hour < 12; hour++) {
            grid.setRain(hour, table[hour]);
        }
        return grid;
    }

    private static final int[] TABLE = {5, 1, 4, 0, 9, 2, 7, 3, 8, 0, 6, 1};

    private static void tableWrapsAround() {
        FloodGrid grid = tabled(TABLE);
        int due = 0;
        for (int hour = 0; hour < 50; hour++) {
            due += TABLE[hour % 12];
            grid.pass(1);
            Check.same("rain till hour " + hour, due, grid.cell(6, 2, 1));
        }
    }

    private static void tableWrapsAroundForEver() {
        FloodGrid grid = tabled(TABLE);
        for (int call = 0; call < 400; call++) {
            grid.pass(48);
        }
        Check.same("rain of 400 times 48 hours", 400 * 4 * 46, grid.cell(6, 2, 1));
        grid.pass(10);
        int before = grid.cell(6, 2, 1);
        grid.pass(1);
        Check.same("rain of hour 19210 is that of hour 10", 6, grid.cell(6, 2, 1) - before);
        grid.pass(1);
        Check.same("rain of hour 19211 is that of hour 11", 7, grid.cell(6, 2, 1) - before);
        grid.pass(1);
        Check.same("rain of hour 19212 is that of hour 0", 12, grid.cell(6, 2, 1) - before);
        Check.same("hours", 19213, grid.count(0));
    }

    // ---- "... how much falls into each cell, 0 to 9 (0, at first)."

    private static void rainOf0And9() {
        FloodGrid grid = new FloodGrid();
        grid.pass(48);
        Check.same("no rain at first", 0, grid.count(1));
        grid.setRain(0, 9);
        grid.pass(1);
        Check.same("rain of 9", 9 * 64, grid.count(1));
        grid.pass(11);
        Check.same("no rain in the others", 9 * 64, grid.count(1));
        grid.setRain(0, 0);
        grid.pass(1);
        Check.same("rain of 0 from now on", 9 * 64, grid.count(1));
    }

    // ---- "1. Rain falls into all cells."

    private static void rainFallsIntoAllCells() {
        FloodGrid grid = new FloodGrid();
        for (int at = 0; at < 64; at++) {
            grid.dam(at % 8, at / 8, 20);
            grid.raise(at % 8, at / 8, at % 51);
        }
        grid.setRain(0, 2);
        grid.pass(1);
        for (int at = 0; at < 64; at++) {
            Check.same("rain in cell " + at, 2, grid.cell(at % 8, at / 8, 1));
        }
    }

    /** Of rain alone 4 runs off: it has fallen ahead of step 2. */
    private static void rainFallsAheadOfRunning() {
        FloodGrid grid = new FloodGrid();
        grid.raise(4, 4, 18);
        grid.setRain(0, 9);
        grid.pass(1);
        Check.same("half of the 8 that it is higher", 5, grid.cell(4, 4, 1));
    }

    // ---- "2. ... each cell with water ..."

    private static void noWaterGivesNone() {
        FloodGrid grid = new FloodGrid();
        grid.raise(4, 4, 50);
        grid.raise(3, 4, 0);
        grid.pass(1);
        Check.same("no water ran", 0, grid.count(1));
        Check.same("none of a high cell", 0, grid.cell(4, 4, 1));
        Check.same("none into a low one", 0, grid.cell(3, 4, 1));
        Check.same("no cell with water", 0, grid.count(2));
    }

    // ---- "... and a level that is greater than its height and its dam, added, ..."

    private static int stays(int height, int dam, int water) {
        FloodGrid grid = new FloodGrid();
        grid.raise(4, 4, height);
        grid.dam(4, 4, dam);
        grid.pour(4, 4, water);
        grid.pass(1);
        Check.same("no water is lost", water, grid.count(1));
        Check.same("what ran is on the left", water - grid.cell(4, 4, 1), grid.cell(3, 4, 1));
        return grid.cell(4, 4, 1);
    }

    private static void levelGreaterThanItsDam() {
        Check.same("1 below its dam", 6, stays(30, 7, 6));
        Check.same("as high as its dam", 7, stays(30, 7, 7));
        Check.same("1 above its dam", 7, stays(30, 7, 8));
        Check.same("1 above no dam", 0, stays(30, 0, 1));
        Check.same("as high as a dam of 1", 1, stays(30, 1, 1));
        Check.same("1 above a dam of 1", 1, stays(30, 1, 2));
    }

    private static void ownDamOf20() {
        Check.same("1 below a dam of 20", 19, stays(50, 20, 19));
        Check.same("as high as a dam of 20", 20, stays(50, 20, 20));
        Check.same("1 above a dam of 20", 20, stays(50, 20, 21));
    }

    // ---- "... gives to its lowest neighbour, ... (of several left, right, above, below first) ..."

    /** Walls stand round cell 4, 4 but for these, which are as high as each other; told by 10 * x + y. */
    private static int runsTo(int[]... open) {
        FloodGrid grid = new FloodGrid();
        for (int[] place : new int[][] {LEFT, RIGHT, ABOVE, BELOW}) {
            grid.raise(place[0], place[1], 50);
        }
        for (int[] place : open) {
            grid.raise(place[0], place[1], 7);
        }
        grid.raise(4, 4, 30);
        grid.pour(4, 4, 2);
        grid.pass(1);
        Check.same("all 2 ran", 0, grid.cell(4, 4, 1));
        for (int[] place : open) {
            if (grid.cell(place[0], place[1], 1) == 2) {
                return 10 * place[0] + place[1];
            }
        }
        return -1;
    }

    private static void lowestOfSeveral() {
        Check.same("left ahead of right", 34, runsTo(LEFT, RIGHT));
        Check.same("left ahead of above", 34, runsTo(LEFT, ABOVE));
        Check.same("left ahead of below", 34, runsTo(LEFT, BELOW));
        Check.same("right ahead of above", 54, runsTo(RIGHT, ABOVE));
        Check.same("right ahead of below", 54, runsTo(RIGHT, BELOW));
        Check.same("above ahead of below", 43, runsTo(ABOVE, BELOW));
        Check.same("left of three", 34, runsTo(LEFT, ABOVE, BELOW));
        Check.same("right of three", 54, runsTo(RIGHT, ABOVE, BELOW));
        Check.same("left of all", 34, runsTo(LEFT, RIGHT, ABOVE, BELOW));
    }

    /** Pours on a hill in a flat plain; told by 10 * x + y. */
    private static int runsFrom(int x, int y) {
        FloodGrid grid = new FloodGrid();
        grid.raise(x, y, 30);
        grid.pour(x, y, 2);
        grid.pass(1);
        for (int at = 0; at < 64; at++) {
            if (grid.cell(at % 8, at / 8, 1) == 2) {
                return 10 * (at % 8) + at / 8;
            }
        }
        return -1;
    }

    private static void lowestOfSeveralAtTheEdges() {
        Check.same("0, 0: right", 10, runsFrom(0, 0));
        Check.same("7, 0: left", 60, runsFrom(7, 0));
        Check.same("0, 7: right", 17, runsFrom(0, 7));
        Check.same("7, 7: left", 67, runsFrom(7, 7));
        Check.same("0, 4: right", 14, runsFrom(0, 4));
        Check.same("7, 4: left", 64, runsFrom(7, 4));
        Check.same("4, 0: left", 30, runsFrom(4, 0));
        Check.same("4, 7: left", 37, runsFrom(4, 7));
    }

    private static void lowestWithoutSeveral() {
        Check.same("left alone", 34, runsTo(LEFT));
        Check.same("right alone", 54, runsTo(RIGHT));
        Check.same("above alone", 43, runsTo(ABOVE));
        Check.same("below alone", 45, runsTo(BELOW));
        FloodGrid grid = new FloodGrid();
        grid.raise(4, 4, 30);
        grid.raise(4, 5, 9);
        grid.pour(4, 4, 2);
        grid.pass(1);
        Check.same("below, which is lower by 1", 2, grid.cell(4, 5, 1));
    }

    // ---- "Neighbours are the cells to the left (x less by 1), to the right, above (y less by 1) and below."

    private static void eachCellGivesToEachNeighbour() {
        for (int at = 0; at < 64; at++) {
            for (int[] step : new int[][] {{-1, 0}, {1, 0}, {0, -1}, {0, 1}}) {
                int x = at % 8 + step[0];
                int y = at / 8 + step[1];
                if (x >= 0 && x <= 7 && y >= 0 && y <= 7) {
                    FloodGrid grid = Grids.pit(x, y, 0);
                    grid.pour(at % 8, at / 8, 3);
                    grid.pass(1);
                    Check.same("from cell " + at + " to " + x + ", " + y, 3, grid.cell(x, y, 1));
                }
            }
        }
    }

    /** A hill at each cell of the edge, with pits where the plain would go on if it were round. */
    private static void noNeighbourOverTheEdge() {
        for (int n = 0; n < 8; n++) {
            noWaterOverTheEdge(0, n, new int[][] {{7, n}, {7, n - 1}, {7, n + 1}});
            noWaterOverTheEdge(7, n, new int[][] {{0, n}, {0, n - 1}, {0, n + 1}});
            noWaterOverTheEdge(n, 0, new int[][] {{n, 7}, {n - 1, 7}, {n + 1, 7}});
            noWaterOverTheEdge(n, 7, new int[][] {{n, 0}, {n - 1, 0}, {n + 1, 0}});
        }
    }

    private static void noWaterOverTheEdge(int x, int y, int[][] pits) {
        FloodGrid grid = new FloodGrid();
        for (int[] pit : pits) {
            if (pit[0] >= 0 && pit[0] <= 7 && pit[1] >= 0 && pit[1] <= 7) {
                grid.raise(pit[0], pit[1], 0);
            }
        }
        grid.raise(x, y, 30);
        grid.pour(x, y, 2);
        grid.pass(1);
        Check.same("no water is lost at " + x + ", " + y, 2, grid.count(1));
        for (int[] pit : pits) {
            if (pit[0] >= 0 && pit[0] <= 7 && pit[1] >= 0 && pit[1] <= 7) {
                Check.same("no water over the edge from " + x + ", " + y, 0, grid.cell(pit[0], pit[1], 1));
            }
        }
    }

    // ---- "... half (cut) of what its level is more than that crest ..."

    /** What runs from a cell with 12 of water to the left, whose crest is so much less than the level. */
    private static int given(int more) {
        FloodGrid grid = new FloodGrid();
        for (int[] place : new int[][] {LEFT, RIGHT, ABOVE, BELOW}) {
            grid.raise(place[0], place[1], 50);
        }
        grid.raise(4, 4, 20);
        grid.pour(4, 4, 12);
        grid.raise(3, 4, 32 - more);
        grid.pass(1);
        Check.same("no water is lost", 12, grid.count(1));
        Check.same("what ran is on the left", 12 - grid.cell(4, 4, 1), grid.cell(3, 4, 1));
        return 12 - grid.cell(4, 4, 1);
    }

    private static void halfIsCut() {
        Check.same("half of 1", 0, given(1));
        Check.same("half of 2", 1, given(2));
        Check.same("half of 3", 1, given(3));
        Check.same("half of 4", 2, given(4));
        Check.same("half of 5", 2, given(5));
        Check.same("half of 23", 11, given(23));
    }

    // ---- "... if it is more ..."

    private static void ifItIsMore() {
        Check.same("as high", 0, given(0));
        Check.same("1 less", 0, given(-1));
        Check.same("2 less", 0, given(-2));
        Check.same("3 less", 0, given(-3));
        Check.same("18 less", 0, given(-18));
    }

    // ---- "... but no more than its water that stands above its own dam (its water less its dam)."

    private static void noMoreThanAboveItsDam() {
        Check.same("half is 1 less than all its water", 11, given(23));
        Check.same("half is all its water", 12, given(24));
        Check.same("half is all its water, cut", 12, given(25));
        Check.same("half would be more than all its water", 12, given(26));
        Check.same("half of 32", 12, given(32));
        Check.same("half of 14 is 7, and 8 stand above its dam", 7, stays(10, 6, 14));
        Check.same("half of 13 is 6, and 7 stand above its dam", 7, stays(10, 6, 13));
        Check.same("half of 12 is 6, and 6 stand above its dam", 6, stays(10, 6, 12));
        Check.same("half of 11 is 5, and 5 stand above its dam", 6, stays(10, 6, 11));
        Check.same("half of 10 is 5, and 4 stand above its dam", 6, stays(10, 6, 10));
    }

    // ---- "Running, all at once by what was before"

    /** Of stairs that go down from the first cell or the last, in a row or a column, water takes one an hour. */
    private static void stairs(boolean back, boolean column) {
        FloodGrid grid = new FloodGrid();
        for (int at = 0; at < 64; at++) {
            grid.raise(at % 8, at / 8, 50);
        }
        for (int step = 0; step < 8; step++) {
            int place = back ? 7 - step : step;
            grid.raise(column ? 4 : place, column ? place : 4, 49 - 7 * step);
        }
        int first = back ? 7 : 0;
        grid.pour(column ? 4 : first, column ? first : 4, 1);
        for (int step = 1; step < 8; step++) {
            grid.pass(1);
            int place = back ? 7 - step : step;
            Check.same("one step an hour", 1, grid.cell(column ? 4 : place, column ? place : 4, 1));
        }
    }

    private static void byWhatWasBefore() {
        stairs(false, false);
        stairs(true, false);
        stairs(false, true);
        stairs(true, true);
        FloodGrid two = new FloodGrid();
        two.pour(3, 3, 4);
        two.pour(4, 3, 6);
        two.pass(1);
        Check.same("the first gives 2 to the left, and comes to what the other sees", 2, two.cell(3, 3, 1));
        Check.same("the other gives 3 to the right", 3, two.cell(5, 3, 1));
    }

    // ---- "3. Dams: one in a cell whose water is at least as high as the dam is worn by 1 more ..."

    private static int wear(int dam, int water) {
        FloodGrid grid = Grids.pit(4, 4, water);
        grid.dam(4, 4, dam);
        grid.pass(1);
        return grid.cell(4, 4, 3);
    }

    private static void damAsHighAsItsWater() {
        Check.same("a dam of 1, no water", 0, wear(1, 0));
        Check.same("a dam of 1, 1 of water", 1, wear(1, 1));
        Check.same("a dam of 1, 2 of water", 1, wear(1, 2));
        Check.same("a dam of 7, 6 of water", 0, wear(7, 6));
        Check.same("a dam of 7, 7 of water", 1, wear(7, 7));
        Check.same("a dam of 7, 8 of water", 1, wear(7, 8));
        Check.same("a dam of 20, 19 of water", 0, wear(20, 19));
        Check.same("a dam of 20, 20 of water", 1, wear(20, 20));
        Check.same("a dam of 20, 50 of water", 1, wear(20, 50));
    }

    // ---- "... with a wear of 10 it is broken ..." and "wear of this, 0 (at first) to 9"

    private static void brokenWithAWearOf10() {
        FloodGrid grid = Grids.pit(4, 4, 5);
        grid.dam(4, 4, 5);
        for (int hour = 0; hour <= 9; hour++) {
            Check.same("wear behind " + hour + " hours", hour, grid.cell(4, 4, 3));
            Check.same("dam behind " + hour + " hours", 5, grid.cell(4, 4, 2));
            Check.same("broken behind " + hour + " hours", 0, grid.count(4));
            grid.pass(1);
        }
        Check.same("wear behind 10 hours", 0, grid.cell(4, 4, 3));
        Check.same("dam behind 10 hours", 0, grid.cell(4, 4, 2));
        Check.same("broken behind 10 hours", 1, grid.count(4));
    }

    // ---- "... there is none any more."

    private static void noneAnyMore() {
        FloodGrid grid = new FloodGrid();
        grid.raise(4, 4, 30);
        grid.dam(4, 4, 5);
        grid.pour(4, 4, 5);
        grid.dam(0, 0, 1);
        grid.pass(10);
        Check.same("broken at the end of the 10th hour, when no water runs any more", 5, grid.cell(4, 4, 1));
        Check.same("crest of none", 35, grid.cell(4, 4, 7));
        Check.same("the other stands", 1, grid.count(3));
        grid.pass(1);
        Check.same("all water runs in the 11th", 0, grid.cell(4, 4, 1));
        Check.same("crest without water", 30, grid.cell(4, 4, 7));
        Check.same("a new dam where one was", 0, grid.dam(4, 4, 3));
        Check.same("without wear", 0, grid.cell(4, 4, 3));
    }

    private static void noneIsNotWorn() {
        FloodGrid grid = Grids.pit(4, 4, 9);
        grid.pass(48);
        Check.same("none has no wear", 0, grid.cell(4, 4, 3));
        Check.same("none breaks, with water or without", 0, grid.count(4));
        Check.same("none is there", 0, grid.count(3));
    }

    // ---- "4. Drains take as much water away as they are, as far as there is some."

    private static void drained(int drain, int water, int due) {
        FloodGrid grid = Grids.pit(7, 7, water);
        grid.drain(7, 7, drain);
        grid.pass(1);
        Check.same("what a drain of " + drain + " took of " + water, due, grid.count(5));
        Check.same("what it left", water - due, grid.cell(7, 7, 1));
    }

    private static void drainsAsFarAsThereIsSome() {
        drained(1, 0, 0);
        drained(1, 1, 1);
        drained(1, 2, 1);
        drained(9, 0, 0);
        drained(9, 1, 1);
        drained(9, 8, 8);
        drained(9, 9, 9);
        drained(9, 10, 9);
    }

    private static void drainOf0() {
        drained(0, 0, 0);
        drained(0, 1, 0);
        drained(0, 50, 0);
    }

    // ---- "5. Towns: in a cell with water of 3 or more ..."

    private static int leave(int people, int water, int drain) {
        FloodGrid grid = Grids.pit(0, 0, water);
        grid.drain(0, 0, drain);
        grid.settle(0, 0, people);
        int leave = grid.pass(1);
        Check.same("who stay of " + people, people - leave, grid.cell(0, 0, 5));
        Check.same("who left of " + people, leave, grid.count(7));
        return leave;
    }

    private static void waterOf3() {
        Check.same("no water", 0, leave(90, 0, 0));
        Check.same("water of 2", 0, leave(90, 2, 0));
        Check.same("water of 3", 31, leave(90, 3, 0));
        Check.same("water of 4", 31, leave(90, 4, 0));
        Check.same("water of 50", 31, leave(90, 50, 0));
    }

    private static void waterOf3BehindTheDrains() {
        Check.same("water of 12, drain of 9", 31, leave(90, 12, 9));
        Check.same("water of 11, drain of 9", 0, leave(90, 11, 9));
    }

    // ---- "... a town loses a third (cut) and 1 more of its people, who leave for good ..."

    private static void aThirdCutAnd1() {
        Check.same("of 2", 1, leave(2, 3, 0));
        Check.same("of 3", 2, leave(3, 3, 0));
        Check.same("of 4", 2, leave(4, 3, 0));
        Check.same("of 5", 2, leave(5, 3, 0));
        Check.same("of 6", 3, leave(6, 3, 0));
        Check.same("of 89", 30, leave(89, 3, 0));
        Check.same("of 90", 31, leave(90, 3, 0));
        FloodGrid grid = Grids.pit(0, 0, 3);
        grid.settle(0, 0, 90);
        grid.pass(1);
        grid.pour(0, 0, -3);
        grid.pass(48);
        Check.same("for good", 59, grid.cell(0, 0, 5));
    }

    // ---- "... (as far as there are some)."

    private static void asFarAsThereAreSome() {
        Check.same("of 1", 1, leave(1, 3, 0));
        Check.same("of none", 0, leave(0, 3, 0));
        FloodGrid grid = Grids.pit(0, 0, 3);
        grid.settle(0, 0, 1);
        grid.pass(48);
        Check.same("none below 0", 0, grid.cell(0, 0, 5));
        Check.same("1 left in all", 1, grid.count(7));
    }

    // ---- "water, 0 or more": no most is named

    private static void fullPlain() {
        FloodGrid grid = new FloodGrid();
        for (int at = 0; at < 64; at++) {
            grid.settle(at % 8, at / 8, 90);
            grid.dam(at % 8, at / 8, 20);
            grid.drain(at % 8, at / 8, 9);
        }
        for (int hour = 0; hour < 12; hour++) {
            grid.setRain(hour, 9);
        }
        for (int call = 0; call < 6; call++) {
            for (int at = 0; at < 32; at++) {
                grid.pour(at % 8, at / 8, 99);
            }
        }
        Check.same("all water poured", 6 * 32 * 99, grid.count(1));
        int left = 0;
        for (int call = 0; call < 4; call++) {
            left += grid.pass(48);
        }
        Check.same("as much is drained as falls", 9 * 64 * 192, grid.count(5));
        Check.same("no water is lost", 6 * 32 * 99, grid.count(1));
        Check.same("all dams broke", 64, grid.count(4));
        Check.same("all people left", 64 * 90, left);
        Check.same("none stay", 0, grid.count(6));
    }

    // ---- promise 11: hours 1 to 48

    private static void pass1And48() {
        FloodGrid grid = Grids.busy();
        FloodGrid twin = Grids.busy();
        int sum = 0;
        for (int hour = 0; hour < 48; hour++) {
            sum += twin.pass(1);
        }
        Check.same("48 hours at once", sum, grid.pass(48));
        Check.same("digest behind them", twin.digest(), grid.digest());
    }

    // ---- promise 11: "Returns how many people leave in them."

    private static void passTellsAllOfItsHours() {
        FloodGrid grid = Grids.pit(0, 0, 3);
        Check.same("without towns", 0, grid.pass(48));
        grid.settle(0, 0, 90);
        Check.same("in the first hour", 31, grid.pass(1));
        Check.same("in the second and the third, not the first", 20 + 14, grid.pass(2));
        Check.same("the rest", 25, grid.pass(48));
        Check.same("none are there", 0, grid.pass(48));
        Check.same("all in all", 90, grid.count(7));
    }
}
