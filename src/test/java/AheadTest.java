import java.util.function.IntConsumer;

/** Promises 12 to 16: what would be, of which nothing is changed. */
public final class AheadTest {
    public static void main(String[] args) {
        floods();
        breaks();
        foresee();
        holds();
        holdsTellsTheLeast();
        advise();
        adviseRaisesBy5();
        adviseTellsTheLeast();
        nothingIsChanged();
        Check.end();
    }

    private static void floods() {
        FloodGrid grid = new FloodGrid();
        Check.same("dry", -1, grid.floods(3, 3));
        grid.setRain(0, 1);
        grid.setRain(1, 1);
        Check.same("3 falls", 13, grid.floods(3, 3));
        grid.setRain(2, 1);
        Check.same("3 hours", 3, grid.floods(3, 3));
        grid.pass(2);
        Check.same("1 hour", 1, grid.floods(3, 3));
        grid.pour(3, 3, 1);
        Check.same("now", 0, grid.floods(3, 3));

        FloodGrid drained = new FloodGrid();
        drained.raise(3, 3, 0);
        drained.drain(3, 3, 4);
        drained.pour(3, 3, 3);
        Check.same("now, though it is drained then", 0, drained.floods(3, 3));
        FloodGrid flat = new FloodGrid();
        flat.setRain(0, 4);
        for (int at = 0; at < 64; at++) {
            flat.pour(at % 8, at / 8, 2);
            flat.drain(at % 8, at / 8, 4);
        }
        Check.same("6 with the rain, 2 behind the drain", -1, flat.floods(3, 3));

        FloodGrid hill = new FloodGrid();
        hill.raise(0, 0, 12);
        hill.setRain(11, 1);
        Check.same("48 hours", 48, hill.floods(0, 0));
        FloodGrid later = new FloodGrid();
        later.raise(0, 0, 13);
        later.setRain(0, 1);
        Check.same("49 hours are too late", -1, later.floods(0, 0));
        later.pass(1);
        Check.same("48 of the 49", 48, later.floods(0, 0));
        places("floods", grid, no -> grid.floods(no, 0), no -> grid.floods(0, no));
    }

    private static void places(String name, FloodGrid grid, IntConsumer asX, IntConsumer asY) {
        for (int no : new int[] {-1, 8, Integer.MIN_VALUE, Integer.MAX_VALUE}) {
            Check.index(name + ", x " + no, grid, () -> asX.accept(no));
            Check.index(name + ", y " + no, grid, () -> asY.accept(no));
        }
    }

    private static void breaks() {
        FloodGrid grid = new FloodGrid();
        Check.same("no dam", -1, grid.breaks(5, 2));
        grid.pour(5, 2, 2);
        grid.dam(5, 2, 2);
        Check.same("10 hours", 10, grid.breaks(5, 2));
        Check.same("not the other way", -1, grid.breaks(2, 5));
        grid.pass(9);
        Check.same("1 hour", 1, grid.breaks(5, 2));
        grid.pour(5, 2, -1);
        Check.same("too little water", -1, grid.breaks(5, 2));
        grid.pour(5, 2, 1);
        grid.pass(1);
        Check.same("it is broken already", -1, grid.breaks(5, 2));

        FloodGrid slow = new FloodGrid();
        slow.setRain(2, 1);
        slow.dam(1, 1, 4);
        Check.same("48 hours", 48, slow.breaks(1, 1));
        FloodGrid slower = new FloodGrid();
        slower.setRain(3, 1);
        slower.dam(1, 1, 4);
        Check.same("49 hours are too late", -1, slower.breaks(1, 1));
        slower.pass(1);
        Check.same("48 of the 49", 48, slower.breaks(1, 1));
        places("breaks", grid, no -> grid.breaks(no, 0), no -> grid.breaks(0, no));
    }

    private static void foresee() {
        FloodGrid grid = Grids.busy();
        grid.pass(11);
        for (int hours = 1; hours <= 48; hours++) {
            FloodGrid twin = Grids.busy();
            twin.pass(11);
            twin.pass(hours);
            for (int what = 1; what <= 8; what++) {
                Check.same("foresee(" + hours + ", " + what + ")", twin.count(what), grid.foresee(hours, what));
            }
        }
        FloodGrid flat = new FloodGrid();
        flat.setRain(1, 2);
        Check.same("1 hour", 0, flat.foresee(1, 1));
        Check.same("2 hours", 128, flat.foresee(2, 1));
        Check.same("14 hours", 256, flat.foresee(14, 1));
        Check.same("48 hours", 512, flat.foresee(48, 1));
        Check.same("one lake", 1, flat.foresee(48, 8));
        for (int no : new int[] {0, -1, 49, Integer.MIN_VALUE, Integer.MAX_VALUE}) {
            Check.argument("foresee, hours " + no, grid, () -> grid.foresee(no, 1));
            Check.argument("foresee, both wrong, hours " + no, grid, () -> grid.foresee(no, 0));
        }
        for (int no : new int[] {0, -1, 9, Integer.MIN_VALUE, Integer.MAX_VALUE}) {
            Check.index("foresee, what " + no, grid, () -> grid.foresee(48, no));
        }
    }

    private static void triedHours(String name, FloodGrid grid, IntConsumer call) {
        for (int no : new int[] {0, -1, 13, Integer.MIN_VALUE, Integer.MAX_VALUE}) {
            Check.argument(name + " " + no, grid, () -> call.accept(no));
        }
    }

    private static void holds() {
        FloodGrid grid = new FloodGrid();
        Check.same("no dam", -1, grid.holds(1));
        Grids.hill(grid, 3, 4, 10, 10);
        Check.same("no town", -1, grid.holds(1));
        grid.settle(2, 4, 30);
        Check.same("it holds the water off", 35, grid.holds(1));
        Check.same("for 12 hours too", 35, grid.holds(12));
        grid.settle(2, 4, 0);
        grid.settle(2, 3, 30);
        Check.same("as far as the water comes", -1, grid.holds(1));

        FloodGrid worn = new FloodGrid();
        Grids.hill(worn, 3, 4, 10, 10);
        worn.settle(2, 4, 2);
        worn.pass(9);
        Check.same("1 leaves in 2 hours, 2 without it", 35, worn.holds(2));
        worn.settle(2, 4, 1);
        Check.same("1 leaves either way in 2 hours", -1, worn.holds(2));
        Check.same("but not in 1", 35, worn.holds(1));

        FloodGrid wrong = new FloodGrid();
        wrong.dam(3, 4, 6);
        wrong.settle(3, 4, 90);
        wrong.pour(3, 4, 6);
        Check.same("without it fewer leave", -1, wrong.holds(2));

        FloodGrid low = Grids.narrow(1, 1);
        low.raise(2, 3, 5);
        low.pour(2, 3, 2);
        Check.same("a dam of 1", 27, low.holds(1));
        FloodGrid first = new FloodGrid();
        Grids.hill(first, 0, 0, 10, 10);
        first.settle(1, 0, 30);
        Check.same("in the first cell", 0, first.holds(1));
        FloodGrid last = new FloodGrid();
        Grids.hill(last, 7, 7, 10, 10);
        last.settle(6, 7, 30);
        Check.same("in the last cell", 63, last.holds(1));
        triedHours("holds", grid, grid::holds);
    }

    private static void holdsTellsTheLeast() {
        FloodGrid grid = new FloodGrid();
        Grids.hill(grid, 3, 1, 10, 10);
        Grids.hill(grid, 3, 3, 10, 10);
        Grids.hill(grid, 3, 5, 10, 10);
        grid.settle(2, 1, 5);
        grid.settle(2, 3, 30);
        grid.settle(2, 5, 30);
        Check.same("of two the least", 27, grid.holds(1));
        grid.settle(2, 5, 33);
        Check.same("the one that holds the most off", 43, grid.holds(1));
        grid.settle(2, 1, 90);
        Check.same("the first", 11, grid.holds(1));
    }

    private static void advise() {
        FloodGrid grid = new FloodGrid();
        Check.same("nothing to hold", -1, grid.advise(12));
        Grids.hill(grid, 3, 3, 5, 0);
        grid.settle(2, 3, 30);
        Check.same("before the town", 26, grid.advise(1));
        grid.raise(4, 3, 50);
        grid.raise(3, 2, 50);
        grid.raise(3, 4, 50);
        Check.same("round the water", 27, grid.advise(1));
        grid.pour(3, 3, 1);
        Check.same("5 of 6 are enough", 27, grid.advise(1));
        grid.pour(3, 3, 2);
        Check.same("5 of 8 are too few", -1, grid.advise(1));

        FloodGrid under = new FloodGrid();
        under.raise(3, 3, 0);
        under.pour(3, 3, 9);
        under.settle(3, 3, 90);
        Check.same("none helps", -1, under.advise(3));

        FloodGrid first = new FloodGrid();
        Grids.hill(first, 0, 0, 5, 0);
        first.raise(0, 1, 50);
        first.settle(1, 0, 30);
        Check.same("in the first cell", 0, first.advise(1));
        FloodGrid last = new FloodGrid();
        Grids.hill(last, 7, 7, 5, 0);
        last.raise(7, 6, 50);
        last.settle(6, 7, 30);
        Check.same("in the last cell", 63, last.advise(1));
        triedHours("advise", grid, grid::advise);
    }

    private static void adviseRaisesBy5() {
        Check.same("from 6 to 11", 27, Grids.narrow(13, 6).advise(1));
        Check.same("11 of 14 are too few", -1, Grids.narrow(14, 6).advise(1));
        Check.same("from 17 to 20", 27, Grids.narrow(22, 17).advise(1));
        Check.same("20 of 23 are too few", -1, Grids.narrow(23, 17).advise(1));

        FloodGrid worn = Grids.narrow(20, 20);
        worn.pass(9);
        Check.same("no higher, but without wear", 27, worn.advise(2));
        Check.same("it holds 1 hour more", -1, worn.advise(1));
        Check.same("the wear is as it was", 9, worn.cell(3, 3, 3));
        worn.settle(2, 3, 1);
        Check.same("it breaks behind 10", 27, worn.advise(10));
        Check.same("and 1 leaves in the 11th either way", -1, worn.advise(11));
    }

    private static void adviseTellsTheLeast() {
        FloodGrid grid = new FloodGrid();
        Grids.hill(grid, 3, 1, 5, 0);
        Grids.hill(grid, 3, 5, 5, 0);
        grid.settle(2, 1, 30);
        grid.settle(2, 5, 30);
        Check.same("of several the least", 10, grid.advise(1));
        grid.settle(2, 5, 33);
        Check.same("so that the fewest leave", 42, grid.advise(1));
        grid.settle(2, 5, 3);
        Check.same("the first again", 10, grid.advise(1));
    }

    private static void nothingIsChanged() {
        FloodGrid grid = Grids.busy();
        FloodGrid twin = Grids.busy();
        for (int round = 0; round < 5; round++) {
            long before = grid.digest();
            for (int at = 0; at < 64; at++) {
                grid.floods(at % 8, at / 8);
                grid.breaks(at % 8, at / 8);
            }
            for (int what = 1; what <= 8; what++) {
                grid.foresee(48, what);
            }
            grid.holds(12);
            grid.advise(12);
            grid.mean();
            Check.same("digest behind all that is asked", before, grid.digest());
            Check.same("pass behind it", twin.pass(7), grid.pass(7));
            Check.same("digest behind the hours", twin.digest(), grid.digest());
        }
    }
}
