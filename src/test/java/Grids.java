/** Plains that several tests begin with. */
final class Grids {
    static final int[] NO_PLACE = {-1, 8, 64, Integer.MIN_VALUE, Integer.MAX_VALUE};
    /** The cells of which one coordinate or both are the least or the most. */
    static final int[][] CORNERS = {{0, 0}, {7, 0}, {0, 7}, {7, 7}};

    private Grids() {
    }

    /** A plain in which every count changes. */
    static FloodGrid busy() {
        FloodGrid grid = new FloodGrid();
        for (int at = 0; at < 64; at++) {
            grid.raise(at % 8, at / 8, at * 29 % 51);
            grid.dam(at % 8, at / 8, at % 3 == 0 ? at * 13 % 21 : 0);
            grid.drain(at % 8, at / 8, at % 5 == 0 ? 2 : 0);
            grid.settle(at % 8, at / 8, at * 17 % 91);
            grid.pour(at % 8, at / 8, at % 7 == 0 ? 30 : 0);
        }
        grid.setRain(3, 2);
        grid.setRain(8, 1);
        return grid;
    }

    /** A hill whose water would run to the left. */
    static void hill(FloodGrid grid, int x, int y, int water, int dam) {
        grid.raise(x, y, 30);
        grid.pour(x, y, water);
        grid.dam(x, y, dam);
    }

    /** A hill that can run to the left alone, where a town is. */
    static FloodGrid narrow(int water, int dam) {
        FloodGrid grid = new FloodGrid();
        hill(grid, 3, 3, water, dam);
        grid.raise(4, 3, 50);
        grid.raise(3, 2, 50);
        grid.raise(3, 4, 50);
        grid.settle(2, 3, 30);
        return grid;
    }

    /** A pit of which no water runs out, up to 50, with this water in it. */
    static FloodGrid pit(int x, int y, int water) {
        FloodGrid grid = new FloodGrid();
        for (int at = 0; at < 64; at++) {
            grid.raise(at % 8, at / 8, 50);
        }
        grid.raise(x, y, 0);
        grid.pour(x, y, water);
        return grid;
    }

    /** A pit, and dams all round it that keep the rain off. */
    static FloodGrid tank(int x, int y, int water) {
        FloodGrid grid = pit(x, y, water);
        for (int at = 0; at < 64; at++) {
            if (at != 8 * y + x) {
                grid.dam(at % 8, at / 8, 20);
            }
        }
        return grid;
    }

    /** Behind 3 hours, a level plain in which each cell has all that there is: worn dams too. */
    static FloodGrid full() {
        FloodGrid grid = new FloodGrid();
        for (int at = 0; at < 64; at++) {
            grid.raise(at % 8, at / 8, 20);
            grid.pour(at % 8, at / 8, 15);
            grid.dam(at % 8, at / 8, 12);
            grid.drain(at % 8, at / 8, 1);
            grid.settle(at % 8, at / 8, 80);
        }
        for (int hour = 0; hour < 12; hour++) {
            grid.setRain(hour, 1 + hour % 2);
        }
        grid.pass(3);
        return grid;
    }
}
