/** Promises 8 to 10, 17 and 18: what is there, the mean water and the checksum. */
public final class LookTest {
    public static void main(String[] args) {
        cell();
        lake();
        count();
        mean();
        digest();
        Check.end();
    }

    private static void cell() {
        FloodGrid grid = new FloodGrid();
        grid.raise(6, 1, 30);
        grid.pour(6, 1, 4);
        grid.dam(6, 1, 5);
        grid.drain(6, 1, 2);
        grid.settle(6, 1, 8);
        cellIs(grid, 6, 1, new int[] {30, 4, 5, 0, 2, 8, 34, 35});
        grid.pour(6, 1, 1);
        cellIs(grid, 6, 1, new int[] {30, 5, 5, 0, 2, 8, 35, 35});
        grid.pour(6, 1, 1);
        cellIs(grid, 6, 1, new int[] {30, 6, 5, 0, 2, 8, 36, 36});
        cellIs(grid, 1, 6, new int[] {10, 0, 0, 0, 0, 0, 10, 10});
        grid.pass(1);
        cellIs(grid, 6, 1, new int[] {30, 3, 5, 1, 2, 5, 33, 35});
        for (int no : new int[] {-1, 8, Integer.MIN_VALUE, Integer.MAX_VALUE}) {
            Check.index("cell, x " + no, grid, () -> grid.cell(no, 0, 0));
            Check.index("cell, y " + no, grid, () -> grid.cell(0, no, 0));
            Check.index("cell, what " + no, grid, () -> grid.cell(0, 0, no));
        }
    }

    private static void cellIs(FloodGrid grid, int x, int y, int[] due) {
        for (int what = 0; what < 8; what++) {
            Check.same("cell(" + x + ", " + y + ", " + what + ")", due[what], grid.cell(x, y, what));
        }
    }

    private static void lake() {
        FloodGrid grid = new FloodGrid();
        Check.same("no water", 0, grid.lake(0, 0));
        int[][] ring = {{2, 2}, {3, 2}, {4, 2}, {4, 3}, {4, 4}, {3, 4}, {2, 4}, {2, 3}};
        for (int[] place : ring) {
            grid.pour(place[0], place[1], 1);
        }
        grid.pour(5, 5, 1);
        grid.pour(7, 0, 1);
        grid.pour(0, 1, 1);
        long before = grid.digest();
        for (int[] place : ring) {
            Check.same("a ring", 8, grid.lake(place[0], place[1]));
        }
        Check.same("the dry cell in the ring", 0, grid.lake(3, 3));
        Check.same("a corner does not join", 1, grid.lake(5, 5));
        Check.same("the end of a row", 1, grid.lake(7, 0));
        Check.same("the start of the next", 1, grid.lake(0, 1));
        Check.same("lakes", 4, grid.count(8));
        Check.same("lake changes nothing", before, grid.digest());
        grid.pour(7, 7, 1);
        grid.pour(7, 0, -1);
        Check.same("the last cell", 1, grid.lake(7, 7));
        Check.same("a lake that is gone", 0, grid.lake(7, 0));
        for (int at = 0; at < 64; at++) {
            grid.pour(at % 8, at / 8, 1);
        }
        Check.same("all cells", 64, grid.lake(5, 0));
        Check.same("no lake over the edge", 1, edge().lake(3, 7));
        Check.same("one lake", 1, grid.count(8));
        grid.dam(3, 3, 20);
        Check.same("a dam parts no lake", 64, grid.lake(3, 3));
        for (int no : new int[] {-1, 8, Integer.MIN_VALUE, Integer.MAX_VALUE}) {
            Check.index("lake, x " + no, grid, () -> grid.lake(no, 0));
            Check.index("lake, y " + no, grid, () -> grid.lake(0, no));
        }
        for (int at = 0; at < 64; at++) {
            if ((at % 8 + at / 8) % 2 == 0) {
                grid.pour(at % 8, at / 8, -99);
            }
        }
        Check.same("lakes like the black fields of a board", 32, grid.count(8));
    }

    private static FloodGrid edge() {
        FloodGrid grid = new FloodGrid();
        grid.pour(3, 7, 1);
        grid.pour(0, 0, 1);
        grid.pour(3, 0, 1);
        grid.pour(7, 7, 1);
        return grid;
    }

    private static void count() {
        FloodGrid grid = new FloodGrid();
        grid.raise(0, 0, 0);
        grid.pour(0, 0, 5);
        grid.drain(0, 0, 2);
        grid.settle(0, 0, 10);
        grid.raise(2, 0, 0);
        grid.pour(2, 0, 1);
        grid.dam(2, 0, 1);
        grid.settle(2, 0, 20);
        grid.dam(7, 7, 20);
        countsAre(grid, new int[] {0, 6, 2, 2, 0, 0, 30, 0, 2});
        grid.pass(1);
        countsAre(grid, new int[] {1, 4, 2, 2, 0, 2, 26, 4, 2});
        grid.pass(9);
        countsAre(grid, new int[] {10, 1, 1, 1, 1, 5, 26, 4, 1});
        for (int no : new int[] {-1, 9, Integer.MIN_VALUE, Integer.MAX_VALUE}) {
            Check.index("count " + no, grid, () -> grid.count(no));
        }
    }

    private static void countsAre(FloodGrid grid, int[] due) {
        for (int what = 0; what <= 8; what++) {
            Check.same("count(" + what + ")", due[what], grid.count(what));
        }
    }

    private static void mean() {
        FloodGrid grid = new FloodGrid();
        Check.same("mean of none", 0.0, grid.mean());
        grid.pour(0, 0, 1);
        Check.same("mean of 1", 1.0, grid.mean());
        grid.pour(5, 6, 2);
        Check.same("mean of 1 and 2", 1.5, grid.mean());
        grid.pour(7, 7, 1);
        Check.same("mean of 1, 2 and 1", 4.0 / 3.0, grid.mean());
        grid.pour(0, 0, -1);
        grid.pour(5, 6, -2);
        grid.pour(7, 7, -1);
        Check.same("mean of none again", 0.0, grid.mean());
    }

    private static void digest() {
        FloodGrid grid = new FloodGrid();
        Check.same("digest of a new object", NEW_DIGEST, grid.digest());
        Check.same("digest changes nothing", NEW_DIGEST, grid.digest());
        int[] rain = new int[12];
        for (int hour = 0; hour < 12; hour++) {
            rain[hour] = (5 * hour + 2) % 10;
            grid.setRain(hour, rain[hour]);
        }
        Check.same("digest with rain", summed(grid, rain), grid.digest());
        for (int at = 0; at < 64; at++) {
            grid.raise(at % 8, at / 8, at * 7 % 51);
            grid.dam(at % 8, at / 8, at * 5 % 21);
            grid.drain(at % 8, at / 8, at * 3 % 10);
            grid.settle(at % 8, at / 8, at * 11 % 91);
        }
        Check.same("digest with all laid out", summed(grid, rain), grid.digest());
        grid.pass(30);
        Check.same("digest behind 30 hours", summed(grid, rain), grid.digest());
    }

    /** Summed outside Java: 9 times 0, 64 times 10, 0, 0, 0, 0, 0, 10, 10, and 12 times 0. */
    private static final long NEW_DIGEST = 8175845507553641655L;

    private static long summed(FloodGrid grid, int[] rain) {
        long d = 1129;
        for (int what = 0; what <= 8; what++) {
            d = 31 * d + grid.count(what);
        }
        for (int y = 0; y < 8; y++) {
            for (int x = 0; x < 8; x++) {
                for (int what = 0; what <= 7; what++) {
                    d = 31 * d + grid.cell(x, y, what);
                }
            }
        }
        for (int falls : rain) {
            d = 31 * d + falls;
        }
        return d;
    }
}
