/**
 * Each sentence "Throws .. if .. is not .. to ..", "If several exceptions apply, the one that is named first is
 * thrown" and "A method that throws an exception changes nothing", for each method that they bind: all that is
 * inside is taken, the first outside on each side is refused, and so is what is far outside.
 */
public final class BoundsTest {
    private static final int[] FAR = {Integer.MIN_VALUE, Integer.MAX_VALUE};

    private interface AtCell {
        void ask(FloodGrid grid, int x, int y);
    }

    private interface ByNumber {
        void ask(FloodGrid grid, int number);
    }

    private interface Setter {
        int set(FloodGrid grid, int x, int y, int number);
    }

    private interface Refused {
        void by(String told, FloodGrid grid, Runnable call);
    }

    public static void main(String[] args) {
        setter("promise 2, raise", FloodGrid::raise, 0, 0, 50);
        pour();
        setter("promise 4, dam", FloodGrid::dam, 2, 0, 20);
        setter("promise 5, drain", FloodGrid::drain, 4, 0, 9);
        setter("promise 6, settle", FloodGrid::settle, 5, 0, 90);
        setRain();
        cell();
        cells("promise 9, lake", FloodGrid::lake);
        numbers("promise 10, count, what", FloodGrid::count, 0, 8, Check::index);
        numbers("promise 11, pass, hours", FloodGrid::pass, 1, 48, Check::argument);
        cells("promise 12, floods", FloodGrid::floods);
        cells("promise 13, breaks", FloodGrid::breaks);
        foresee();
        numbers("promise 15, holds, hours", FloodGrid::holds, 1, 12, Check::argument);
        numbers("promise 16, advise, hours", FloodGrid::advise, 1, 12, Check::argument);
        refusedCallsLeaveNoTrace();
        Check.end();
    }

    // ---- "Throws IndexOutOfBoundsException if x or y is not 0 to 7"

    private static void cells(String told, AtCell call) {
        for (int[] corner : Grids.CORNERS) {
            Check.takes(told + ", corner " + corner[0] + ", " + corner[1],
                () -> call.ask(Grids.full(), corner[0], corner[1]));
        }
        FloodGrid grid = Grids.full();
        for (int no : Grids.NO_PLACE) {
            for (int side : new int[] {0, 7}) {
                Check.index(told + ", x " + no + ", y " + side, grid, () -> call.ask(grid, no, side));
                Check.index(told + ", y " + no + ", x " + side, grid, () -> call.ask(grid, side, no));
            }
            Check.index(told + ", x and y " + no, grid, () -> call.ask(grid, no, no));
        }
        // 8 * y + x is a cell's number here, but x is none.
        Check.index(told + ", x 8, y -1", grid, () -> call.ask(grid, 8, -1));
        Check.index(told + ", x -1, y 1", grid, () -> call.ask(grid, -1, 1));
        Check.index(told + ", x 8, y 6", grid, () -> call.ask(grid, 8, 6));
        Check.index(told + ", x -8, y 7", grid, () -> call.ask(grid, -8, 7));
        Check.index(told + ", x 63, y 0", grid, () -> call.ask(grid, 63, 0));
        Check.index(told + ", y 2^29, which 8 times is 0", grid, () -> call.ask(grid, 0, 1 << 29));
    }

    // ---- "Throws .. if .. is not .. to .."

    private static void numbers(String told, ByNumber call, int least, int most, Refused refused) {
        for (int number = least; number <= most; number++) {
            int taken = number;
            Check.takes(told + " " + number, () -> call.ask(Grids.full(), taken));
        }
        FloodGrid grid = Grids.full();
        refused.by(told + " " + (least - 1), grid, () -> call.ask(grid, least - 1));
        refused.by(told + " " + (most + 1), grid, () -> call.ask(grid, most + 1));
        for (int far : FAR) {
            refused.by(told + " " + far, grid, () -> call.ask(grid, far));
        }
    }

    // ---- promises 2 to 6

    private static void setter(String told, Setter setter, int what, int least, int most) {
        cells(told, (grid, x, y) -> setter.set(grid, x, y, least));
        cells(told, (grid, x, y) -> setter.set(grid, x, y, most));
        for (int[] corner : Grids.CORNERS) {
            numbers(told, (grid, number) -> setter.set(grid, corner[0], corner[1], number), least, most,
                Check::argument);
        }
        eachNumberIsKept(told, setter, what, least, most);
        cellIsNamedAheadOfNumber(told, setter, least, most);
    }

    private static void eachNumberIsKept(String told, Setter setter, int what, int least, int most) {
        FloodGrid grid = new FloodGrid();
        int before = what == 0 ? 10 : 0;
        for (int number = most; number >= least; number--) {
            Check.same(told + " " + number + ", which was", before, setter.set(grid, 7, 0, number));
            Check.same(told + " " + number + ", which is", number, grid.cell(7, 0, what));
            before = number;
        }
    }

    private static void cellIsNamedAheadOfNumber(String told, Setter setter, int least, int most) {
        FloodGrid grid = Grids.full();
        for (int number : new int[] {least - 1, most + 1, FAR[0], FAR[1]}) {
            for (int no : Grids.NO_PLACE) {
                Check.index(told + ", x " + no + " and " + number, grid, () -> setter.set(grid, no, 0, number));
                Check.index(told + ", y " + no + " and " + number, grid, () -> setter.set(grid, 7, no, number));
                Check.index(told + ", all wrong", grid, () -> setter.set(grid, no, no, number));
            }
        }
    }

    private static void pour() {
        String told = "promise 3, pour";
        cells(told, (grid, x, y) -> grid.pour(x, y, -99));
        cells(told, (grid, x, y) -> grid.pour(x, y, 99));
        for (int[] corner : Grids.CORNERS) {
            numbers(told, (grid, number) -> grid.pour(corner[0], corner[1], number), -99, 99, Check::argument);
        }
        for (int number = -99; number <= 99; number++) {
            FloodGrid grid = new FloodGrid();
            grid.pour(0, 7, 99);
            Check.same(told + " " + number + " to 99", 99 + number, grid.pour(0, 7, number));
            Check.same(told + " " + number + " to 99, which is", 99 + number, grid.cell(0, 7, 1));
        }
        cellIsNamedAheadOfNumber(told, FloodGrid::pour, -99, 99);
    }

    // ---- promise 7

    private static void setRain() {
        String told = "promise 7, setRain";
        for (int hour = 0; hour < 12; hour++) {
            int row = hour;
            numbers(told + ", rain of hour " + hour, (grid, rain) -> grid.setRain(row, rain), 0, 9,
                Check::argument);
        }
        numbers(told + ", hour", (grid, hour) -> grid.setRain(hour, 0), 0, 11, Check::index);
        numbers(told + ", hour", (grid, hour) -> grid.setRain(hour, 9), 0, 11, Check::index);
        FloodGrid grid = Grids.full();
        for (int rain : new int[] {-1, 10, FAR[0], FAR[1]}) {
            for (int hour : new int[] {-1, 12, FAR[0], FAR[1]}) {
                Check.index(told + ", both wrong: " + hour + ", " + rain, grid, () -> grid.setRain(hour, rain));
            }
        }
        for (int hour = 0; hour < 12; hour++) {
            int before = 1 + hour % 2;
            for (int rain = 9; rain >= 0; rain--) {
                Check.same(told + " " + hour + ", " + rain, before, grid.setRain(hour, rain));
                before = rain;
            }
        }
    }

    // ---- promise 8

    private static void cell() {
        String told = "promise 8, cell";
        for (int what = 0; what <= 7; what++) {
            int asked = what;
            cells(told + ", what " + what, (grid, x, y) -> grid.cell(x, y, asked));
        }
        for (int[] corner : Grids.CORNERS) {
            numbers(told + ", what", (grid, what) -> grid.cell(corner[0], corner[1], what), 0, 7, Check::index);
        }
        FloodGrid grid = Grids.full();
        Check.index(told + ", all less", grid, () -> grid.cell(-1, -1, -1));
        Check.index(told + ", all more", grid, () -> grid.cell(8, 8, 8));
    }

    // ---- promise 14

    private static void foresee() {
        String told = "promise 14, foresee";
        for (int what = 1; what <= 8; what++) {
            int asked = what;
            numbers(told + ", what " + what + ", hours", (grid, hours) -> grid.foresee(hours, asked), 1, 48,
                Check::argument);
        }
        for (int hours : new int[] {1, 48}) {
            numbers(told + ", hours " + hours + ", what", (grid, what) -> grid.foresee(hours, what), 1, 8,
                Check::index);
        }
        FloodGrid grid = Grids.full();
        for (int hours : new int[] {0, 49, -1, FAR[0], FAR[1]}) {
            for (int what : new int[] {0, 9, -1, FAR[0], FAR[1]}) {
                Check.argument(told + ", both wrong: " + hours + ", " + what, grid,
                    () -> grid.foresee(hours, what));
            }
        }
    }

    // ---- "A method that throws an exception changes nothing."

    /** What is behind refused calls goes on as it does where none was. */
    private static void refusedCallsLeaveNoTrace() {
        FloodGrid grid = Grids.busy();
        FloodGrid twin = Grids.busy();
        for (int round = 0; round < 5; round++) {
            refused(grid);
            String told = "round " + round + " behind refused calls, ";
            Check.same(told + "digest", twin.digest(), grid.digest());
            Check.same(told + "holds", twin.holds(12), grid.holds(12));
            Check.same(told + "advise", twin.advise(12), grid.advise(12));
            Check.same(told + "all water foreseen", twin.foresee(48, 1), grid.foresee(48, 1));
            Check.same(told + "pass", twin.pass(7), grid.pass(7));
            Check.same(told + "digest behind the hours", twin.digest(), grid.digest());
        }
    }

    private static void refused(FloodGrid grid) {
        Setter[] setters = {FloodGrid::raise, FloodGrid::pour, FloodGrid::dam, FloodGrid::drain, FloodGrid::settle};
        for (Setter setter : setters) {
            Check.index("x 8", grid, () -> setter.set(grid, 8, 0, 1));
            Check.index("y -1", grid, () -> setter.set(grid, 0, -1, 1));
            Check.argument("100", grid, () -> setter.set(grid, 0, 0, 100));
            Check.argument("-100", grid, () -> setter.set(grid, 0, 0, -100));
        }
        Check.index("hour 12", grid, () -> grid.setRain(12, 1));
        Check.argument("rain 10", grid, () -> grid.setRain(0, 10));
        Check.index("cell what 8", grid, () -> grid.cell(0, 0, 8));
        Check.index("lake x 8", grid, () -> grid.lake(8, 0));
        Check.index("count 9", grid, () -> grid.count(9));
        Check.argument("pass 49", grid, () -> grid.pass(49));
        Check.index("floods y 8", grid, () -> grid.floods(0, 8));
        Check.index("breaks y 8", grid, () -> grid.breaks(0, 8));
        Check.argument("foresee 49", grid, () -> grid.foresee(49, 1));
        Check.index("foresee what 9", grid, () -> grid.foresee(48, 9));
        Check.argument("holds 13", grid, () -> grid.holds(13));
        Check.argument("advise 13", grid, () -> grid.advise(13));
    }
}
