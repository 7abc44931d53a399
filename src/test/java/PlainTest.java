/** Promises 1 to 7: a new object, and the calls that lay the plain out. */
public final class PlainTest {
    private static final int[] NO_PLACE = {-1, 8, 64, Integer.MIN_VALUE, Integer.MAX_VALUE};

    private interface Setter {
        int set(FloodGrid grid, int x, int y, int number);
    }

    public static void main(String[] args) {
        newObject();
        setter("raise", FloodGrid::raise, 0, 10, 0, 50);
        setter("dam", FloodGrid::dam, 2, 0, 0, 20);
        setter("drain", FloodGrid::drain, 4, 0, 0, 9);
        setter("settle", FloodGrid::settle, 5, 0, 0, 90);
        wrongInputs("pour", FloodGrid::pour, -99, 99);
        raiseKeepsTheWater();
        pour();
        damIsWithoutWear();
        settleIsNoLeaving();
        setRain();
        Check.end();
    }

    private static void newObject() {
        FloodGrid grid = new FloodGrid();
        int[] due = {10, 0, 0, 0, 0, 0, 10, 10};
        for (int at = 0; at < 64; at++) {
            for (int what = 0; what < 8; what++) {
                Check.same("new: cell " + at + ", " + what, due[what], grid.cell(at % 8, at / 8, what));
            }
        }
        for (int what = 0; what <= 8; what++) {
            Check.same("new: count(" + what + ")", 0, grid.count(what));
        }
        for (int hour = 0; hour < 12; hour++) {
            Check.same("new: rain of " + hour, 0, grid.setRain(hour, 0));
        }
    }

    /** A call that sets what cell() tells as what, and answers what was there. */
    private static void setter(String name, Setter setter, int what, int first, int least, int most) {
        FloodGrid grid = new FloodGrid();
        Check.same(name + " at first", first, setter.set(grid, 2, 5, most));
        Check.same(name + " the most", most, grid.cell(2, 5, what));
        Check.same(name + " and x, y the other way", first, grid.cell(5, 2, what));
        Check.same(name + " behind the most", most, setter.set(grid, 2, 5, least));
        Check.same(name + " the least", least, grid.cell(2, 5, what));
        Check.same(name + " behind the least", least, setter.set(grid, 2, 5, 7));
        Check.same(name + " 7", 7, grid.cell(2, 5, what));
        for (int at = 0; at < 64; at++) {
            Check.same(name + " in each cell", at == 42 ? 7 : first, setter.set(grid, at % 8, at / 8, at % 9));
        }
        for (int at = 0; at < 64; at++) {
            Check.same(name + " in each cell, then", at % 9, grid.cell(at % 8, at / 8, what));
        }
        wrongInputs(name, setter, least, most);
    }

    private static void wrongInputs(String name, Setter setter, int least, int most) {
        FloodGrid grid = new FloodGrid();
        int[] noNumber = {least - 1, most + 1, Integer.MIN_VALUE, Integer.MAX_VALUE};
        for (int no : NO_PLACE) {
            Check.index(name + ", x " + no, grid, () -> setter.set(grid, no, 0, least));
            Check.index(name + ", y " + no, grid, () -> setter.set(grid, 0, no, least));
            Check.index(name + ", all wrong " + no, grid, () -> setter.set(grid, no, no, most + 1));
            Check.index(name + ", y and number wrong " + no, grid, () -> setter.set(grid, 7, no, least - 1));
        }
        for (int no : noNumber) {
            Check.argument(name + ", number " + no, grid, () -> setter.set(grid, 7, 7, no));
        }
    }

    private static void raiseKeepsTheWater() {
        FloodGrid grid = new FloodGrid();
        grid.pour(1, 1, 6);
        grid.raise(1, 1, 20);
        Check.same("water behind raise", 6, grid.cell(1, 1, 1));
        Check.same("level behind raise", 26, grid.cell(1, 1, 6));
    }

    private static void pour() {
        FloodGrid grid = new FloodGrid();
        Check.same("pour 99", 99, grid.pour(1, 6, 99));
        Check.same("pour 99 more", 198, grid.pour(1, 6, 99));
        Check.same("pour 0", 198, grid.pour(1, 6, 0));
        Check.same("pour -99", 99, grid.pour(1, 6, -99));
        Check.same("pour -98", 1, grid.pour(1, 6, -98));
        Check.same("its water", 1, grid.cell(1, 6, 1));
        Check.same("pour -2 of 1", 0, grid.pour(1, 6, -2));
        Check.same("pour -1 of 0", 0, grid.pour(1, 6, -1));
        Check.same("its water then", 0, grid.cell(1, 6, 1));
        Check.same("no drain took it", 0, grid.count(5));
    }

    private static void damIsWithoutWear() {
        FloodGrid grid = new FloodGrid();
        grid.dam(4, 4, 2);
        grid.pour(4, 4, 2);
        grid.pass(3);
        Check.same("wear", 3, grid.cell(4, 4, 3));
        Check.same("dam again as high", 2, grid.dam(4, 4, 2));
        Check.same("wear of the new one", 0, grid.cell(4, 4, 3));
        grid.pass(2);
        Check.same("dam 0", 2, grid.dam(4, 4, 0));
        Check.same("wear of none", 0, grid.cell(4, 4, 3));
        Check.same("dams", 0, grid.count(3));
        Check.same("a dam taken away did not break", 0, grid.count(4));
    }

    private static void settleIsNoLeaving() {
        FloodGrid grid = new FloodGrid();
        grid.settle(0, 0, 90);
        grid.settle(0, 0, 20);
        Check.same("people", 20, grid.count(6));
        Check.same("people who left", 0, grid.count(7));
    }

    private static void setRain() {
        FloodGrid grid = new FloodGrid();
        for (int hour = 0; hour < 12; hour++) {
            Check.same("rain at first", 0, grid.setRain(hour, hour % 10));
        }
        for (int hour = 0; hour < 12; hour++) {
            Check.same("rain before", hour % 10, grid.setRain(hour, 9));
        }
        Check.same("rain of 9", 9, grid.setRain(11, 0));
        for (int no : new int[] {-1, 12, Integer.MIN_VALUE, Integer.MAX_VALUE}) {
            Check.index("rain of hour " + no, grid, () -> grid.setRain(no, 0));
            Check.index("rain of hour " + no + ", wrong too", grid, () -> grid.setRain(no, 10));
        }
        for (int no : new int[] {-1, 10, Integer.MIN_VALUE, Integer.MAX_VALUE}) {
            Check.argument("rain " + no, grid, () -> grid.setRain(11, no));
        }
    }
}
