/**
 * The boundary cases of promises 12 to 16: each sentence, or part of one, that stands above a method is tested by
 * that method.
 */
public final class AheadEdgesTest {
    private interface Asked {
        long ask(FloodGrid grid);
    }

    public static void main(String[] args) {
        flooded0IfItIsNow();
        floodedBy3();
        floodedAtTheEndOfAnHour();
        floodedFirst();
        floodedAtMost48();
        floodedByThisHourOfTheTable();
        floodedNot();
        brokenBehind1To10();
        brokenAtMost48();
        brokenNotIfThereIsNone();
        brokenNotByThen();
        brokenIsThisDam();
        foreseen1And48();
        foreseenInAll();
        foreseenFrom1To8();
        holdsInSoManyHours();
        holdsNone();
        holdsByADamOf1And20();
        holdsTheMost();
        holdsTheLeastOfSeveral();
        holdsAsWornAsTheyAre();
        advisesInSoManyHours();
        advisesNone();
        advises5Higher();
        advises20AtMost();
        advisesWithoutWear();
        advisesTheLeastOfSeveral();
        nothingIsChanged();
        Check.end();
    }

    // ---- promise 12: "0 if it is now"

    private static void flooded0IfItIsNow() {
        for (int[] corner : Grids.CORNERS) {
            FloodGrid grid = new FloodGrid();
            grid.pour(corner[0], corner[1], 3);
            Check.same("3 now", 0, grid.floods(corner[0], corner[1]));
            grid.drain(corner[0], corner[1], 9);
            Check.same("3 now, none in an hour", 0, grid.floods(corner[0], corner[1]));
            grid.pour(corner[0], corner[1], 96);
            Check.same("99 now", 0, grid.floods(corner[0], corner[1]));
        }
    }

    // ---- promise 12: "its water is 3 or more"

    private static void floodedBy3() {
        FloodGrid grid = Grids.tank(2, 2, 2);
        Check.same("2 for ever", -1, grid.floods(2, 2));
        grid.setRain(0, 1);
        Check.same("3 in an hour", 1, grid.floods(2, 2));
        grid.pour(2, 2, -1);
        Check.same("3 in 13", 13, grid.floods(2, 2));
        grid.pour(2, 2, -1);
        Check.same("3 in 25", 25, grid.floods(2, 2));
        grid.pour(2, 2, 3);
        Check.same("3 now", 0, grid.floods(2, 2));
    }

    /** As the towns do, it looks at the water that the drains left. */
    private static void floodedAtTheEndOfAnHour() {
        FloodGrid grid = Grids.tank(2, 2, 2);
        grid.drain(2, 2, 1);
        grid.setRain(0, 1);
        Check.same("3 amid an hour, 2 at its end", -1, grid.floods(2, 2));
        grid.setRain(0, 2);
        Check.same("4 amid an hour, 3 at its end", 1, grid.floods(2, 2));
    }

    /** It is flooded in hours 2, 14, 26 and 38, and not between them. */
    private static void floodedFirst() {
        FloodGrid grid = Grids.tank(2, 2, 0);
        grid.drain(2, 2, 6);
        grid.setRain(1, 9);
        Check.same("the first time", 2, grid.floods(2, 2));
        grid.pass(2);
        Check.same("flooded now", 0, grid.floods(2, 2));
        grid.pass(1);
        Check.same("the second time", 11, grid.floods(2, 2));
    }

    // ---- promise 12: "at most 48; -1 if not by then"

    /**
     * In four rains, each in this hour of the table, a dam fills; it breaks 9 hours behind the fourth, and the water
     * runs upon cell 3, 4 in the hour behind this.
     */
    private static FloodGrid filling(int hour) {
        FloodGrid grid = new FloodGrid();
        for (int at = 0; at < 64; at++) {
            grid.drain(at % 8, at / 8, 9);
        }
        grid.drain(4, 4, 0);
        grid.drain(3, 4, 0);
        grid.raise(3, 4, 20);
        for (int[] place : new int[][] {{4, 4}, {5, 4}, {4, 3}, {4, 5}}) {
            grid.raise(place[0], place[1], 50);
        }
        grid.dam(4, 4, 4);
        grid.setRain(hour, 1);
        return grid;
    }

    private static void floodedAtMost48() {
        Check.same("47", 47, filling(0).floods(3, 4));
        Check.same("48", 48, filling(1).floods(3, 4));
        FloodGrid late = filling(2);
        Check.same("49 are too late", -1, late.floods(3, 4));
        late.pass(1);
        Check.same("48 of the 49", 48, late.floods(3, 4));
        late.pass(47);
        Check.same("the last of them", 1, late.floods(3, 4));
        late.pass(1);
        Check.same("it is now", 0, late.floods(3, 4));
    }

    // ---- promise 12, "the hour by the remainder of 12"

    private static void floodedByThisHourOfTheTable() {
        FloodGrid grid = Grids.tank(2, 2, 0);
        grid.setRain(5, 3);
        for (int hour = 0; hour < 30; hour++) {
            Check.same("behind hour " + hour, (17 - hour % 12) % 12 + 1, grid.floods(2, 2));
            grid.pass(1);
            grid.pour(2, 2, -99);
        }
    }

    private static void floodedNot() {
        FloodGrid grid = new FloodGrid();
        for (int at = 0; at < 64; at++) {
            Check.same("dry", -1, grid.floods(at % 8, at / 8));
        }
        grid = Grids.pit(2, 2, 9);
        for (int at = 0; at < 64; at++) {
            Check.same("only that cell", at == 18 ? 0 : -1, grid.floods(at % 8, at / 8));
        }
    }

    // ---- promise 13: "Returns behind how many hours its dam is broken"

    private static void brokenBehind1To10() {
        for (int dam : new int[] {1, 7, 20}) {
            FloodGrid grid = Grids.pit(0, 7, dam);
            grid.dam(0, 7, dam);
            for (int hours = 10; hours >= 1; hours--) {
                Check.same("a dam of " + dam, hours, grid.breaks(0, 7));
                grid.pass(1);
            }
            Check.same("it is broken", -1, grid.breaks(0, 7));
        }
    }

    // ---- promise 13: "at most 48; -1 if not by then"

    private static void brokenAtMost48() {
        Check.same("46", 46, filling(0).breaks(4, 4));
        Check.same("47", 47, filling(1).breaks(4, 4));
        Check.same("48", 48, filling(2).breaks(4, 4));
        FloodGrid late = filling(3);
        Check.same("49 are too late", -1, late.breaks(4, 4));
        late.pass(1);
        Check.same("48 of the 49", 48, late.breaks(4, 4));
        late.pass(47);
        Check.same("the last of them", 1, late.breaks(4, 4));
        late.pass(1);
        Check.same("it is broken now", -1, late.breaks(4, 4));
    }

    // ---- promise 13: "or there is none"

    private static void brokenNotIfThereIsNone() {
        FloodGrid grid = Grids.pit(0, 7, 50);
        for (int at = 0; at < 64; at++) {
            Check.same("no dam", -1, grid.breaks(at % 8, at / 8));
        }
        grid.dam(0, 7, 5);
        grid.pass(9);
        grid.dam(0, 7, 0);
        Check.same("none any more", -1, grid.breaks(0, 7));
        grid.dam(0, 7, 5);
        Check.same("a new one", 10, grid.breaks(0, 7));
    }

    private static void brokenNotByThen() {
        FloodGrid grid = Grids.pit(0, 7, 6);
        grid.dam(0, 7, 7);
        Check.same("6 of water for ever", -1, grid.breaks(0, 7));
        grid.pour(0, 7, 1);
        grid.drain(0, 7, 1);
        Check.same("7 for 1 hour", -1, grid.breaks(0, 7));
        grid.pour(0, 7, 8);
        Check.same("7 and more for 9 hours", -1, grid.breaks(0, 7));
        grid.pour(0, 7, 1);
        Check.same("7 and more for 10", 10, grid.breaks(0, 7));
    }

    private static void brokenIsThisDam() {
        FloodGrid grid = Grids.pit(0, 7, 7);
        grid.raise(7, 0, 0);
        grid.pour(7, 0, 7);
        grid.dam(0, 7, 7);
        grid.pass(4);
        grid.dam(7, 0, 7);
        Check.same("the old one", 6, grid.breaks(0, 7));
        Check.same("the new one", 10, grid.breaks(7, 0));
    }

    // ---- promise 14: "how many, 1 to 48"

    private static void foreseen1And48() {
        for (int hours : new int[] {1, 2, 47, 48}) {
            FloodGrid grid = Grids.busy();
            grid.pass(5);
            FloodGrid twin = Grids.busy();
            twin.pass(5);
            twin.pass(hours);
            for (int what = 1; what <= 8; what++) {
                Check.same("behind " + hours + ", " + what, twin.count(what), grid.foresee(hours, what));
            }
        }
    }

    private static void foreseenInAll() {
        FloodGrid grid = Grids.pit(0, 0, 13);
        grid.dam(0, 0, 1);
        grid.drain(0, 0, 1);
        grid.settle(0, 0, 90);
        grid.pass(10);
        grid.settle(0, 0, 3);
        int left = grid.count(7);
        Check.same("dams that broke in all", 1, grid.foresee(1, 4));
        Check.same("what drains took in all", 11, grid.foresee(1, 5));
        Check.same("what drains took in all, at the end", 13, grid.foresee(48, 5));
        Check.same("people who left in all", left, grid.foresee(1, 7));
        grid.pour(0, 0, 1);
        Check.same("people who left in all, 2 more", left + 2, grid.foresee(1, 7));
        Check.same("people of all towns", 1, grid.foresee(1, 6));
    }

    // ---- promise 14: "1 to 8 as count() has it"

    private static void foreseenFrom1To8() {
        FloodGrid grid = Grids.pit(0, 0, 3);
        grid.raise(7, 7, 0);
        grid.pour(7, 7, 2);
        grid.dam(7, 7, 9);
        grid.dam(0, 7, 9);
        grid.dam(0, 5, 9);
        grid.drain(7, 7, 1);
        grid.settle(0, 0, 12);
        int[] due = {0, 4, 2, 3, 0, 1, 7, 5, 2};
        for (int what = 1; what <= 8; what++) {
            Check.same("behind an hour, " + what, due[what], grid.foresee(1, what));
        }
        Check.index("the hour is not foreseen", grid, () -> grid.foresee(1, 0));
    }

    // ---- promises 15 and 16: "in so many hours", 1 to 12

    /** The path's 13 cells go down by 4 each; 3 of water takes a step an hour, and would reach a town in hour 12. */
    private static FloodGrid path() {
        int[][] path = {{7, 7}, {6, 7}, {5, 7}, {4, 7}, {3, 7}, {2, 7}, {1, 7}, {0, 7}, {0, 6}, {0, 5}, {1, 5},
            {2, 5}, {3, 5}};
        FloodGrid grid = new FloodGrid();
        for (int at = 0; at < 64; at++) {
            grid.raise(at % 8, at / 8, 50);
        }
        for (int step = 0; step <= 12; step++) {
            grid.raise(path[step][0], path[step][1], 50 - 4 * step);
        }
        grid.pour(7, 7, 3);
        grid.settle(3, 5, 30);
        return grid;
    }

    private static void holdsInSoManyHours() {
        FloodGrid grid = path();
        grid.dam(7, 7, 4);
        Check.same("12 hours", 63, grid.holds(12));
        Check.same("11 hours", -1, grid.holds(11));
        Check.same("1 hour", -1, grid.holds(1));
        FloodGrid near = Grids.narrow(3, 3);
        Check.same("near, 1 hour", 27, near.holds(1));
        Check.same("near, 10 hours", 27, near.holds(10));
        Check.same("near, 11 hours: it breaks in the 10th, and as many leave", -1, near.holds(11));
    }

    // ---- promise 15: "-1 if without none more leave"

    private static void holdsNone() {
        FloodGrid grid = Grids.narrow(10, 0);
        Check.same("no dam", -1, grid.holds(1));
        grid.dam(3, 3, 9);
        Check.same("a dam over which 1 runs holds all others", 27, grid.holds(1));
        grid.dam(3, 3, 7);
        Check.same("a dam over which 3 run: as many leave", -1, grid.holds(1));
        grid.dam(3, 3, 10);
        grid.settle(2, 3, 0);
        Check.same("no town", -1, grid.holds(1));
        grid.settle(0, 0, 90);
        Check.same("a town that no water reaches", -1, grid.holds(12));
        Check.same("a flat plain", -1, new FloodGrid().holds(12));

        FloodGrid kept = Grids.narrow(10, 10);
        kept.settle(2, 3, 0);
        kept.settle(3, 3, 90);
        Check.same("without it fewer leave", -1, kept.holds(1));
        FloodGrid both = Grids.narrow(10, 10);
        both.settle(3, 3, 30);
        Check.same("without it as many leave elsewhere", -1, both.holds(1));
        both.settle(2, 3, 33);
        Check.same("1 more leaves", 27, both.holds(1));
    }

    // ---- promise 15, "a dam, 0 (none, at first) to 20 high"

    private static void holdsByADamOf1And20() {
        FloodGrid low = Grids.narrow(1, 1);
        low.raise(2, 3, 0);
        low.pour(2, 3, 2);
        Check.same("1 of water behind a dam of 1", 27, low.holds(1));
        Check.same("20 of water behind a dam of 20", 27, Grids.narrow(20, 20).holds(1));
        Check.same("22 of water, of which 2 run over", 27, Grids.narrow(22, 20).holds(1));
        Check.same("23 of water, of which 3 run over", -1, Grids.narrow(23, 20).holds(1));
    }

    // ---- promise 15: "the dam without which the most people would leave"

    /** Hills with dams in each row of x 3, and towns on their left. */
    private static FloodGrid rows(int dam, int... people) {
        FloodGrid grid = new FloodGrid();
        for (int y = 0; y < 8; y++) {
            for (int x = 3; x < 8; x++) {
                grid.raise(x, y, 50);
            }
            if (y < people.length && people[y] >= 0) {
                grid.raise(3, y, 30);
                grid.pour(3, y, 4);
                grid.dam(3, y, dam);
                grid.settle(2, y, people[y]);
            }
        }
        return grid;
    }

    private static void holdsTheMost() {
        Check.same("of 11 and 12", 19, rows(4, 30, -1, 33).holds(1));
        Check.same("of 12 and 11", 3, rows(4, 33, -1, 30).holds(1));
        Check.same("of 11, 12 and 10", 35, rows(4, 30, -1, -1, -1, 33, -1, 27).holds(1));
        Check.same("of 1, 2 and none", 19, rows(4, 1, -1, 3, -1, 0).holds(1));
        Check.same("of none and 1", 51, rows(4, 0, -1, 0, -1, 0, -1, 1).holds(1));
    }

    // ---- promise 15: "of several the least"

    private static void holdsTheLeastOfSeveral() {
        Check.same("of two", 3, rows(4, 30, -1, 30).holds(1));
        Check.same("of two that are more", 19, rows(4, 3, -1, 30, -1, 30).holds(1));
        Check.same("32 leave 11, as 30 do", 3, rows(4, 30, -1, 32).holds(1));
        Check.same("30 leave 11, as 32 do", 3, rows(4, 32, -1, 30).holds(1));
        FloodGrid row = new FloodGrid();
        Grids.hill(row, 6, 2, 10, 10);
        Grids.hill(row, 1, 3, 10, 10);
        row.settle(5, 2, 30);
        row.settle(0, 3, 30);
        Check.same("by 8 * y + x, y ahead of x", 22, row.holds(1));
        FloodGrid ends = new FloodGrid();
        Grids.hill(ends, 0, 0, 10, 10);
        Grids.hill(ends, 7, 7, 10, 10);
        ends.settle(1, 0, 30);
        ends.settle(6, 7, 30);
        Check.same("of the first and the last cell", 0, ends.holds(1));
        ends.settle(6, 7, 33);
        Check.same("the last cell", 63, ends.holds(1));
    }

    /** Both towns would lose 11 once, in the hour in which the water comes. */
    private static void holdsAsWornAsTheyAre() {
        FloodGrid grid = rows(4, 30, -1, 30);
        grid.pass(9);
        Check.same("in 1 hour both stand", 3, grid.holds(1));
        grid.dam(3, 2, 4);
        Check.same("in 1 hour the worn one and the new one stand", 3, grid.holds(1));
        Check.same("in 2 the water behind the worn one has come, with it or without", 19, grid.holds(2));
        Check.same("in 10 hours too", 19, grid.holds(10));
        Check.same("in 11 that behind the new one too", -1, grid.holds(11));
        Check.same("the wear is as it was", 9, grid.cell(3, 0, 3));
    }

    private static void advisesInSoManyHours() {
        FloodGrid grid = path();
        Check.same("12 hours", 40, grid.advise(12));
        Check.same("11 hours", -1, grid.advise(11));
        Check.same("1 hour", -1, grid.advise(1));
        Check.same("near, 1 hour", 27, Grids.narrow(3, 0).advise(1));
        Check.same("near, 12 hours", 27, Grids.narrow(3, 0).advise(12));
    }

    // ---- promise 16: "-1 if by none fewer leave"

    private static void advisesNone() {
        Check.same("a flat plain", -1, new FloodGrid().advise(12));
        FloodGrid grid = Grids.narrow(5, 0);
        grid.settle(2, 3, 0);
        Check.same("no town", -1, grid.advise(12));
        FloodGrid pit = Grids.pit(3, 3, 9);
        pit.settle(3, 3, 90);
        Check.same("a town in a pit", -1, pit.advise(12));
        Check.same("a dam that holds already", -1, Grids.narrow(5, 5).advise(1));
        FloodGrid full = new FloodGrid();
        for (int at = 0; at < 64; at++) {
            full.dam(at % 8, at / 8, 20);
            full.pour(at % 8, at / 8, 30);
            full.settle(at % 8, at / 8, 90);
        }
        Check.same("dams of 20 without wear all over", -1, full.advise(12));
    }

    // ---- promise 16: "a dam, 5 higher than it is"

    private static void advises5Higher() {
        for (int dam = 0; dam <= 14; dam++) {
            Check.same("from " + dam + ", 2 run over", 27, walled(dam + 7, dam).advise(1));
            Check.same("from " + dam + ", 3 run over", -1, walled(dam + 8, dam).advise(1));
        }
    }

    /** Water that can run to the left alone, upon a town so low that no dam there keeps it dry. */
    private static FloodGrid walled(int water, int dam) {
        FloodGrid grid = Grids.narrow(water, dam);
        grid.raise(2, 3, 0);
        return grid;
    }

    // ---- promise 16: "(20 at most)"

    private static void advises20AtMost() {
        for (int dam = 15; dam <= 19; dam++) {
            Check.same("from " + dam + " to 20, 2 run over", 27, walled(22, dam).advise(1));
            Check.same("from " + dam + " to 20, 3 run over", -1, walled(23, dam).advise(1));
        }
        Check.same("from 20 to 20, 2 run over", -1, walled(22, 20).advise(1));
        Check.same("from 20 to 20, 3 run over", -1, walled(23, 20).advise(1));
    }

    // ---- promise 16: "without wear"

    private static void advisesWithoutWear() {
        FloodGrid grid = walled(20, 20);
        grid.pass(9);
        Check.same("a worn dam of 20 stands 1 hour more", -1, grid.advise(1));
        Check.same("a new one would stand for 10", 27, grid.advise(2));
        Check.same("the worn one is not renewed by that", 9, grid.cell(3, 3, 3));
        Check.same("it breaks in an hour", 1, grid.breaks(3, 3));
        grid.settle(2, 3, 1);
        Check.same("the one in the town leaves behind hour 10, not in it", 27, grid.advise(10));
        Check.same("but in hour 11 at the latest", -1, grid.advise(11));
    }

    // ---- promise 16: "of several the least"

    private static void advisesTheLeastOfSeveral() {
        Check.same("of two rows", 3, rows(0, 30, -1, 30).advise(1));
        Check.same("of two rows, the more", 19, rows(0, 30, -1, 33).advise(1));
        Check.same("32 leave 11, as 30 do", 3, rows(0, 30, -1, 32).advise(1));
        FloodGrid ends = new FloodGrid();
        Grids.hill(ends, 0, 0, 5, 0);
        ends.raise(0, 1, 50);
        Grids.hill(ends, 7, 7, 5, 0);
        ends.raise(7, 6, 50);
        ends.settle(1, 0, 30);
        ends.settle(6, 7, 30);
        Check.same("of the first and the last", 0, ends.advise(1));
        ends.settle(6, 7, 33);
        Check.same("the last", 63, ends.advise(1));
    }

    // ---- "(nothing is changed)", in promises 12 to 16 each

    private static void nothingIsChanged() {
        unchanged("floods", grid -> grid.floods(3, 3));
        unchanged("breaks", grid -> grid.breaks(3, 0));
        unchanged("foresee", grid -> grid.foresee(48, 7));
        unchanged("holds", grid -> grid.holds(12));
        unchanged("advise", grid -> grid.advise(12));
    }

    private static void unchanged(String told, Asked asked) {
        FloodGrid grid = Grids.busy();
        FloodGrid twin = Grids.busy();
        for (int round = 0; round < 20; round++) {
            long first = asked.ask(grid);
            Check.same(told + " a second time", first, asked.ask(grid));
            Check.same(told + ", digest behind it", twin.digest(), grid.digest());
            Check.same(told + ", pass behind it", twin.pass(2), grid.pass(2));
            Check.same(told + ", digest behind pass", twin.digest(), grid.digest());
        }
    }
}
