/**
 * The boundary cases of the plain as Terms and promises 1 to 10, 17 and 18 name them, and of the 512 calls: each
 * sentence, or part of one, that stands above a method is tested by that method.
 */
public final class LookEdgesTest {
    public static void main(String[] args) {
        eachCellIsItsOwn();
        objectsShareNothing();
        calls512();
        level();
        crest();
        heightUnderWaterAndDam();
        pourAsFarAsThereIsSome();
        pourWithoutAMost();
        damWithoutWear();
        damOf0();
        townOf0();
        townOfOthers();
        firstAndLastHourOfTheTable();
        lakeWithoutWater();
        lakeOf1();
        lakeOf64();
        lakeWindsThroughThePlain();
        lakeEndsAtTheEdges();
        lakeHangsTogetherByNeighbours();
        lakeLooksAtWaterAlone();
        countOfAnEmptyPlain();
        countOfAFullPlain();
        lakesFrom0To32();
        meanWithoutWater();
        meanOfCellsWithWaterAlone();
        meanIsNotCut();
        digestOfANewObject();
        digestWrapsAround();
        digestTellsEachNumber();
        digestKeepsTheOrder();
        Check.end();
    }

    // ---- "It is 8 cells wide and 8 high, x and y 0 to 7."

    private static void eachCellIsItsOwn() {
        FloodGrid grid = new FloodGrid();
        for (int at = 0; at < 64; at++) {
            grid.settle(at % 8, at / 8, at + 1);
            grid.pour(at % 8, at / 8, 90 - at);
        }
        for (int at = 0; at < 64; at++) {
            Check.same("people of cell " + at, at + 1, grid.cell(at % 8, at / 8, 5));
            Check.same("water of cell " + at, 90 - at, grid.cell(at % 8, at / 8, 1));
        }
        Check.same("64 cells with water", 64, grid.count(2));
        Check.same("people of 64 towns", 64 * 65 / 2, grid.count(6));
    }

    // ---- promise 1: "Creates a flat plain without water, in the hour 0."

    private static void objectsShareNothing() {
        FloodGrid old = Grids.busy();
        old.pass(30);
        long before = old.digest();
        Check.same("a new object beside another", NEW_DIGEST, new FloodGrid().digest());
        FloodGrid grid = new FloodGrid();
        grid.pour(0, 0, 9);
        grid.setRain(0, 9);
        grid.pass(3);
        grid.floods(0, 0);
        Check.same("an object beside a new one", before, old.digest());
        FloodGrid flat = new FloodGrid();
        flat.pass(48);
        for (int at = 0; at < 64; at++) {
            Check.same("flat", 10, flat.cell(at % 8, at / 8, 7));
        }
        Check.same("without water", 0, flat.count(1));
        Check.same("no town", 0, flat.count(6));
    }

    // ---- "An object is used for at most 512 calls after it has been made"

    private static void calls512() {
        FloodGrid grid = new FloodGrid();
        for (int hour = 0; hour < 12; hour++) {
            grid.setRain(hour, 9);
        }
        for (int call = 0; call < 497; call++) {
            Check.same("nobody leaves", 0, grid.pass(48));
        }
        int hours = 497 * 48;
        Check.same("call 510", hours, grid.count(0));
        Check.same("call 511", 64 * 9 * hours, grid.count(1));
        Check.same("call 512", 9.0 * hours, grid.mean());

        FloodGrid poured = new FloodGrid();
        for (int call = 1; call <= 512; call++) {
            Check.same("pour, call " + call, 99 * call, poured.pour(7, 7, 99));
        }
        FloodGrid taken = new FloodGrid();
        for (int call = 1; call <= 512; call++) {
            Check.same("pour out, call " + call, 0, taken.pour(7, 7, -99));
        }
    }

    // ---- "Level of a cell: its height and its water, added."

    private static void level() {
        FloodGrid grid = new FloodGrid();
        grid.raise(5, 1, 0);
        Check.same("level of 0 and 0", 0, grid.cell(5, 1, 6));
        Check.same("crest of 0 and 0", 0, grid.cell(5, 1, 7));
        grid.pour(5, 1, 99);
        Check.same("level of 0 and 99", 99, grid.cell(5, 1, 6));
        grid.raise(5, 1, 50);
        Check.same("level of 50 and 99", 149, grid.cell(5, 1, 6));
        grid.pour(5, 1, -99);
        Check.same("level of 50 and 0", 50, grid.cell(5, 1, 6));
        grid.dam(5, 1, 20);
        Check.same("a dam is no part of the level", 50, grid.cell(5, 1, 6));
    }

    // ---- "Crest: its height and its dam, added, or its level, if this is more."

    private static void crest() {
        FloodGrid grid = new FloodGrid();
        int[] due = {30, 30, 30, 31, 32};
        grid.dam(2, 6, 20);
        grid.pour(2, 6, 18);
        for (int more = 0; more < due.length; more++) {
            Check.same("a dam of 20, " + (18 + more) + " of water", due[more], grid.cell(2, 6, 7));
            grid.pour(2, 6, 1);
        }
        grid.raise(2, 6, 50);
        grid.pour(2, 6, -99);
        Check.same("the highest cell and dam", 70, grid.cell(2, 6, 7));
        grid.dam(2, 6, 0);
        Check.same("without a dam and water", 50, grid.cell(2, 6, 7));
    }

    // ---- promise 2: "its height from now on"

    private static void heightUnderWaterAndDam() {
        FloodGrid grid = new FloodGrid();
        grid.pour(3, 3, 5);
        grid.dam(3, 3, 5);
        grid.drain(3, 3, 1);
        grid.settle(3, 3, 60);
        grid.pass(2);
        Check.same("as high as it is", 10, grid.raise(3, 3, 10));
        Check.same("down to 0", 10, grid.raise(3, 3, 0));
        int[] due = {0, 3, 5, 1, 1, 25, 3, 5};
        for (int what = 0; what <= 7; what++) {
            Check.same("only its height is another, " + what, due[what], grid.cell(3, 3, what));
        }
    }

    // ---- promise 3: "less than 0: is taken out, as far as there is some"

    private static void pourAsFarAsThereIsSome() {
        FloodGrid grid = new FloodGrid();
        Check.same("none of none", 0, grid.pour(4, 0, 0));
        Check.same("1 of none", 0, grid.pour(4, 0, -1));
        Check.same("99 of none", 0, grid.pour(4, 0, -99));
        grid.pour(4, 0, 7);
        Check.same("1 less than there is", 1, grid.pour(4, 0, -6));
        Check.same("all that there is", 0, grid.pour(4, 0, -1));
        grid.pour(4, 0, 7);
        Check.same("1 more than there is", 0, grid.pour(4, 0, -8));
        Check.same("its water then", 0, grid.cell(4, 0, 1));
        Check.same("nothing is owed", 3, grid.pour(4, 0, 3));
    }

    // ---- "water, 0 or more": no most is named

    private static void pourWithoutAMost() {
        FloodGrid grid = new FloodGrid();
        for (int call = 1; call <= 300; call++) {
            Check.same("poured " + call + " times", 99 * call, grid.pour(4, 0, 99));
        }
        Check.same("its level", 29710, grid.cell(4, 0, 6));
        for (int call = 299; call >= 0; call--) {
            grid.pour(4, 0, -99);
        }
        Check.same("all taken out", 0, grid.cell(4, 0, 1));
    }

    // ---- promise 4: "how high its dam is from now on, without wear; 0 for none"

    private static FloodGrid worn() {
        FloodGrid grid = Grids.pit(6, 6, 20);
        grid.dam(6, 6, 8);
        grid.pass(9);
        Check.same("wear of the old one", 9, grid.cell(6, 6, 3));
        return grid;
    }

    private static void damWithoutWear() {
        for (int dam : new int[] {1, 7, 8, 9, 20}) {
            FloodGrid grid = worn();
            Check.same("how high it was", 8, grid.dam(6, 6, dam));
            Check.same("wear of one of " + dam, 0, grid.cell(6, 6, 3));
            grid.pass(9);
            Check.same("wear behind 9 hours", 9, grid.cell(6, 6, 3));
            Check.same("it stands", dam, grid.cell(6, 6, 2));
            grid.pass(1);
            Check.same("it is broken", 0, grid.dam(6, 6, 1));
        }
    }

    private static void damOf0() {
        FloodGrid grid = worn();
        grid.dam(6, 6, 0);
        Check.same("wear of none", 0, grid.cell(6, 6, 3));
        Check.same("no dams", 0, grid.count(3));
        grid.pass(1);
        Check.same("none broke", 0, grid.count(4));
        Check.same("none was", 0, grid.dam(6, 6, 0));
    }

    // ---- promise 6: "the people of its town from now on; 0 for none"

    private static void townOf0() {
        FloodGrid grid = Grids.pit(6, 6, 20);
        grid.settle(6, 6, 90);
        Check.same("people before", 90, grid.settle(6, 6, 0));
        Check.same("no people", 0, grid.count(6));
        Check.same("none leave", 0, grid.pass(48));
        Check.same("none left", 0, grid.count(7));
    }

    private static void townOfOthers() {
        FloodGrid grid = Grids.pit(6, 6, 20);
        grid.settle(6, 6, 1);
        Check.same("all leave", 1, grid.pass(1));
        Check.same("none before", 0, grid.settle(6, 6, 90));
        Check.same("others leave", 31, grid.pass(1));
        Check.same("who left in all", 32, grid.count(7));
        Check.same("people of all towns", 59, grid.count(6));
    }

    // ---- promise 7: "an hour of the table, 0 to 11"

    private static void firstAndLastHourOfTheTable() {
        FloodGrid grid = new FloodGrid();
        grid.pass(11);
        grid.setRain(11, 4);
        grid.setRain(0, 5);
        grid.pass(1);
        Check.same("the last hour of the table", 4 * 64, grid.count(1));
        grid.pass(1);
        Check.same("the first", 9 * 64, grid.count(1));
        Check.same("rain before", 4, grid.setRain(11, 0));
        Check.same("rain before", 5, grid.setRain(0, 0));
        grid.pass(48);
        Check.same("none any more", 9 * 64, grid.count(1));
    }

    // ---- promise 9: "0 if it has no water"

    private static void lakeWithoutWater() {
        FloodGrid grid = new FloodGrid();
        for (int at = 0; at < 64; at++) {
            Check.same("no water in the plain", 0, grid.lake(at % 8, at / 8));
        }
        for (int at = 0; at < 64; at++) {
            grid.pour(at % 8, at / 8, 1);
        }
        grid.pour(4, 4, -1);
        Check.same("no water amid a lake", 0, grid.lake(4, 4));
        Check.same("the lake round it", 63, grid.lake(0, 0));
    }

    // ---- promise 9: "cells with water that hang together as neighbours, with it"

    private static void lakeOf1() {
        for (int at = 0; at < 64; at++) {
            FloodGrid grid = new FloodGrid();
            grid.pour(at % 8, at / 8, 1);
            for (int asked = 0; asked < 64; asked++) {
                Check.same("1 cell, " + at, asked == at ? 1 : 0, grid.lake(asked % 8, asked / 8));
            }
            Check.same("1 lake, " + at, 1, grid.count(8));
        }
    }

    private static void lakeOf64() {
        FloodGrid grid = new FloodGrid();
        for (int at = 0; at < 64; at++) {
            grid.pour(at % 8, at / 8, 1);
        }
        for (int at = 0; at < 64; at++) {
            Check.same("all 64", 64, grid.lake(at % 8, at / 8));
        }
    }

    /** Rows 0, 2, 4 and 6 are full, and joined by turns at the right and at the left. */
    private static void lakeWindsThroughThePlain() {
        FloodGrid grid = new FloodGrid();
        for (int x = 0; x < 8; x++) {
            for (int y = 0; y < 8; y += 2) {
                grid.pour(x, y, 1);
            }
        }
        Check.same("not yet joined", 8, grid.lake(3, 4));
        Check.same("lakes", 4, grid.count(8));
        grid.pour(7, 1, 1);
        grid.pour(0, 3, 1);
        grid.pour(7, 5, 1);
        grid.pour(0, 7, 1);
        for (int[] place : new int[][] {{0, 0}, {7, 1}, {3, 4}, {7, 5}, {0, 7}}) {
            Check.same("all of its windings", 36, grid.lake(place[0], place[1]));
        }
        Check.same("one lake", 1, grid.count(8));
        grid.pour(0, 3, -1);
        Check.same("its first half", 17, grid.lake(7, 2));
        Check.same("its second half", 18, grid.lake(0, 4));
        Check.same("two lakes", 2, grid.count(8));
    }

    private static void lakeEndsAtTheEdges() {
        for (int n = 0; n < 8; n++) {
            FloodGrid grid = new FloodGrid();
            grid.pour(0, n, 1);
            grid.pour(7, n, 1);
            Check.same("the left end of row " + n, 1, grid.lake(0, n));
            Check.same("the right end of row " + n, 1, grid.lake(7, n));
            Check.same("2 lakes", 2, grid.count(8));
            FloodGrid upright = new FloodGrid();
            upright.pour(n, 0, 1);
            upright.pour(n, 7, 1);
            Check.same("the upper end of column " + n, 1, upright.lake(n, 0));
            Check.same("the lower end of column " + n, 1, upright.lake(n, 7));
            Check.same("2 lakes", 2, upright.count(8));
            if (n < 7) {
                FloodGrid next = new FloodGrid();
                next.pour(7, n, 1);
                next.pour(0, n + 1, 1);
                Check.same("a row's end and the next one's start", 1, next.lake(7, n));
                Check.same("2 lakes", 2, next.count(8));
            }
        }
    }

    private static void lakeHangsTogetherByNeighbours() {
        int[][] beside = {{3, 4}, {5, 4}, {4, 3}, {4, 5}};
        int[][] across = {{3, 3}, {5, 3}, {3, 5}, {5, 5}};
        for (int[] place : beside) {
            FloodGrid grid = new FloodGrid();
            grid.pour(4, 4, 1);
            grid.pour(place[0], place[1], 1);
            Check.same("beside", 2, grid.lake(4, 4));
            Check.same("from beside", 2, grid.lake(place[0], place[1]));
        }
        for (int[] place : across) {
            FloodGrid grid = new FloodGrid();
            grid.pour(4, 4, 1);
            grid.pour(place[0], place[1], 1);
            Check.same("across", 1, grid.lake(4, 4));
            Check.same("from across", 1, grid.lake(place[0], place[1]));
        }
        FloodGrid apart = new FloodGrid();
        apart.pour(3, 4, 1);
        apart.pour(5, 4, 1);
        Check.same("with a cell between", 1, apart.lake(3, 4));
    }

    /** Heights, dams and levels part no lake. */
    private static void lakeLooksAtWaterAlone() {
        FloodGrid grid = new FloodGrid();
        grid.pour(0, 0, 99);
        grid.raise(1, 0, 50);
        grid.dam(1, 0, 20);
        grid.pour(1, 0, 1);
        grid.raise(2, 0, 0);
        grid.pour(2, 0, 1);
        Check.same("one lake", 3, grid.lake(1, 0));
        Check.same("1 in all", 1, grid.count(8));
    }

    // ---- promise 10, empty and full

    private static void countsAre(String told, FloodGrid grid, int[] due) {
        for (int what = 0; what <= 8; what++) {
            Check.same(told + ", count(" + what + ")", due[what], grid.count(what));
        }
    }

    private static void countOfAnEmptyPlain() {
        FloodGrid grid = new FloodGrid();
        countsAre("empty", grid, new int[9]);
        grid.pass(1);
        countsAre("empty behind an hour", grid, new int[] {1, 0, 0, 0, 0, 0, 0, 0, 0});
    }

    private static void countOfAFullPlain() {
        FloodGrid grid = new FloodGrid();
        for (int at = 0; at < 64; at++) {
            grid.pour(at % 8, at / 8, 20);
            grid.dam(at % 8, at / 8, 20);
            grid.drain(at % 8, at / 8, 9);
            grid.settle(at % 8, at / 8, 90);
        }
        grid.setRain(0, 9);
        countsAre("full", grid, new int[] {0, 20 * 64, 64, 64, 0, 0, 90 * 64, 0, 1});
        grid.pass(1);
        countsAre("full behind an hour", grid, new int[] {1, 20 * 64, 64, 64, 0, 9 * 64, 59 * 64, 31 * 64, 1});
        grid.pass(3);
        countsAre("no cell has water then", grid, new int[] {4, 0, 0, 64, 0, 29 * 64, 39 * 64, 51 * 64, 0});
    }

    private static void lakesFrom0To32() {
        for (int odd = 0; odd < 2; odd++) {
            FloodGrid grid = new FloodGrid();
            int lakes = 0;
            Check.same("no lake", 0, grid.count(8));
            for (int at = 0; at < 64; at++) {
                if ((at % 8 + at / 8) % 2 == odd) {
                    lakes++;
                    grid.pour(at % 8, at / 8, 1);
                    Check.same("lakes", lakes, grid.count(8));
                }
            }
            Check.same("as many as there can be", 32, grid.count(8));
        }
    }

    // ---- promise 17: "0 if there are none"

    private static void meanWithoutWater() {
        FloodGrid grid = new FloodGrid();
        Check.same("new", 0.0, grid.mean());
        grid.pour(7, 7, 1);
        grid.pour(7, 7, -1);
        Check.same("none any more", 0.0, grid.mean());
        grid.pour(0, 0, 5);
        grid.drain(0, 0, 9);
        grid.raise(0, 0, 0);
        grid.pass(1);
        Check.same("all is drained", 0.0, grid.mean());
    }

    // ---- promise 17: "the mean water of all cells with water"

    private static void meanOfCellsWithWaterAlone() {
        FloodGrid grid = new FloodGrid();
        grid.pour(0, 0, 99);
        Check.same("the first cell", 99.0, grid.mean());
        grid.pour(7, 7, 1);
        Check.same("and the last", 50.0, grid.mean());
        for (int at = 0; at < 64; at++) {
            grid.pour(at % 8, at / 8, 2);
        }
        Check.same("all", (100.0 + 128.0) / 64.0, grid.mean());
    }

    private static void meanIsNotCut() {
        FloodGrid grid = new FloodGrid();
        grid.pour(0, 0, 2);
        grid.pour(1, 0, 1);
        Check.same("3 of 2", 1.5, grid.mean());
        grid.pour(2, 0, 2);
        Check.same("5 of 3", 5.0 / 3.0, grid.mean());
    }

    // ---- promise 18

    /** Summed outside Java: 9 times 0, 64 times 10, 0, 0, 0, 0, 0, 10, 10, and 12 times 0. */
    private static final long NEW_DIGEST = 8175845507553641655L;

    private static void digestOfANewObject() {
        Check.same("new", NEW_DIGEST, new FloodGrid().digest());
    }

    // ---- promise 18: "which wraps around as a 64-bit integer"

    /** Summed outside Java, in numbers without a bound, of which the last 64 bits are taken. */
    private static void digestWrapsAround() {
        FloodGrid last = new FloodGrid();
        last.pour(7, 7, 1);
        Check.same("less than 0, 1 of water in the last cell", -7467710731075226311L, last.digest());
        FloodGrid first = new FloodGrid();
        first.pour(0, 0, 1);
        Check.same("less than 0, 1 of water in the first cell", -8886956301976623559L, first.digest());
    }

    // ---- promise 18: "for each of the following numbers"

    private static void digestTellsEachNumber() {
        for (int hour = 0; hour < 12; hour++) {
            FloodGrid grid = new FloodGrid();
            grid.setRain(hour, 1);
            Check.same("rain of hour " + hour, NEW_DIGEST + power31(11 - hour), grid.digest());
        }
        for (int at = 0; at < 64; at++) {
            long last = power31(12 + 8 * (63 - at));
            FloodGrid drained = new FloodGrid();
            drained.drain(at % 8, at / 8, 1);
            Check.same("drain of " + at, NEW_DIGEST + last * power31(3), drained.digest());
            FloodGrid raised = new FloodGrid();
            raised.raise(at % 8, at / 8, 11);
            Check.same("height of " + at, NEW_DIGEST + last * (power31(7) + 31 + 1), raised.digest());
            FloodGrid settled = new FloodGrid();
            settled.settle(at % 8, at / 8, 1);
            Check.same("people of " + at, NEW_DIGEST + last * power31(2) + power31(526), settled.digest());
            FloodGrid dammed = new FloodGrid();
            dammed.dam(at % 8, at / 8, 1);
            Check.same("dam of " + at, NEW_DIGEST + last * (power31(5) + 1) + power31(529), dammed.digest());
            FloodGrid poured = new FloodGrid();
            poured.pour(at % 8, at / 8, 1);
            Check.same("water of " + at, NEW_DIGEST + last * (power31(6) + 31 + 1) + power31(531) + power31(530)
                + power31(524), poured.digest());
        }
        FloodGrid grid = new FloodGrid();
        grid.pass(1);
        Check.same("the hour", NEW_DIGEST + power31(532), grid.digest());
    }

    private static long power31(int times) {
        long power = 1;
        for (int time = 0; time < times; time++) {
            power *= 31;
        }
        return power;
    }

    // ---- promise 18: "in its order", "by 8 * y + x"

    private static void digestKeepsTheOrder() {
        FloodGrid grid = new FloodGrid();
        grid.raise(1, 0, 20);
        FloodGrid other = new FloodGrid();
        other.raise(0, 1, 20);
        long more = 10 * (power31(7) + 31 + 1);
        Check.same("x 1 is the second", NEW_DIGEST + more * power31(12 + 8 * 62), grid.digest());
        Check.same("y 1 is the ninth", NEW_DIGEST + more * power31(12 + 8 * 55), other.digest());
    }
}
