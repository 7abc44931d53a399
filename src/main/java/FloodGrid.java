import java.util.Arrays;

/** A plain under flood, in a grid: ../shared/DOC.md says what each call promises. */
public final class FloodGrid {
    private static final int SIDE = 8;
    private static final int CELLS = 64;
    private static final int NEIGHBOURS = 4;
    private static final int TABLE_HOURS = 12;

    private static final int FIRST_HEIGHT = 10;
    private static final int MOST_HEIGHT = 50;
    private static final int MOST_POURED = 99;
    private static final int MOST_DAM = 20;
    private static final int MOST_DRAIN = 9;
    private static final int MOST_PEOPLE = 90;
    private static final int MOST_RAIN = 9;
    private static final int WORN_OUT = 10;
    private static final int FLOOD_WATER = 3;
    private static final int RAISED_DAM = 5;

    private static final int CELL_NUMBERS = 8;
    private static final int COUNTS = 9;
    private static final int MOST_HOURS = 48;
    private static final int MOST_TRIED_HOURS = 12;

    private final Plain now;
    /** What would be is tried here, on rows made once, so that no call makes objects. */
    private final Plain ahead;

    public FloodGrid() {
        now = new Plain();
        ahead = new Plain();
    }

    // ---- the plain

    public int raise(int x, int y, int height) throws IndexOutOfBoundsException, IllegalArgumentException {
        int at = placeOf(x, y);
        requireWithin(height, 0, MOST_HEIGHT);
        int before = now.height[at];
        now.height[at] = height;
        return before;
    }

    public int pour(int x, int y, int water) throws IndexOutOfBoundsException, IllegalArgumentException {
        int at = placeOf(x, y);
        requireWithin(water, -MOST_POURED, MOST_POURED);
        now.water[at] = Math.max(0, now.water[at] + water);
        return now.water[at];
    }

    public int dam(int x, int y, int dam) throws IndexOutOfBoundsException, IllegalArgumentException {
        int at = placeOf(x, y);
        requireWithin(dam, 0, MOST_DAM);
        int before = now.dam[at];
        now.dam[at] = dam;
        now.wear[at] = 0;
        return before;
    }

    public int drain(int x, int y, int drain) throws IndexOutOfBoundsException, IllegalArgumentException {
        int at = placeOf(x, y);
        requireWithin(drain, 0, MOST_DRAIN);
        int before = now.drain[at];
        now.drain[at] = drain;
        return before;
    }

    public int settle(int x, int y, int people) throws IndexOutOfBoundsException, IllegalArgumentException {
        int at = placeOf(x, y);
        requireWithin(people, 0, MOST_PEOPLE);
        int before = now.people[at];
        now.people[at] = people;
        return before;
    }

    public int setRain(int hour, int rain) throws IndexOutOfBoundsException, IllegalArgumentException {
        requireIndex(hour, 0, TABLE_HOURS - 1);
        requireWithin(rain, 0, MOST_RAIN);
        int before = now.rain[hour];
        now.rain[hour] = rain;
        return before;
    }

    // ---- what is there

    public int cell(int x, int y, int what) throws IndexOutOfBoundsException {
        int at = placeOf(x, y);
        requireIndex(what, 0, CELL_NUMBERS - 1);
        return now.cellNumber(at, what);
    }

    public int lake(int x, int y) throws IndexOutOfBoundsException {
        return now.lakeSize(placeOf(x, y));
    }

    public int count(int what) throws IndexOutOfBoundsException {
        requireIndex(what, 0, COUNTS - 1);
        return now.tally(what);
    }

    // ---- hours and what would be

    public int pass(int hours) throws IllegalArgumentException {
        requireWithin(hours, 1, MOST_HOURS);
        return now.goHours(hours);
    }

    public int floods(int x, int y) throws IndexOutOfBoundsException {
        int at = placeOf(x, y);
        ahead.becomeLike(now);
        if (ahead.water[at] >= FLOOD_WATER) {
            return 0;
        }
        for (int hours = 1; hours <= MOST_HOURS; hours++) {
            ahead.goOneHour();
            if (ahead.water[at] >= FLOOD_WATER) {
                return hours;
            }
        }
        return -1;
    }

    public int breaks(int x, int y) throws IndexOutOfBoundsException {
        int at = placeOf(x, y);
        if (now.dam[at] == 0) {
            return -1;
        }
        ahead.becomeLike(now);
        for (int hours = 1; hours <= MOST_HOURS; hours++) {
            ahead.goOneHour();
            if (ahead.dam[at] == 0) {
                return hours;
            }
        }
        return -1;
    }

    public int foresee(int hours, int what) throws IllegalArgumentException, IndexOutOfBoundsException {
        requireWithin(hours, 1, MOST_HOURS);
        requireIndex(what, 1, COUNTS - 1);
        ahead.becomeLike(now);
        ahead.goHours(hours);
        return ahead.tally(what);
    }

    public int holds(int hours) throws IllegalArgumentException {
        requireWithin(hours, 1, MOST_TRIED_HOURS);
        int most = leaveIfNothingIsDone(hours);
        int found = -1;
        for (int at = 0; at < CELLS; at++) {
            if (now.dam[at] > 0) {
                int leave = leaveWithDam(at, 0, hours);
                if (leave > most) {
                    most = leave;
                    found = at;
                }
            }
        }
        return found;
    }

    public int advise(int hours) throws IllegalArgumentException {
        requireWithin(hours, 1, MOST_TRIED_HOURS);
        int fewest = leaveIfNothingIsDone(hours);
        int found = -1;
        for (int at = 0; at < CELLS; at++) {
            int leave = leaveWithDam(at, Math.min(MOST_DAM, now.dam[at] + RAISED_DAM), hours);
            if (leave < fewest) {
                fewest = leave;
                found = at;
            }
        }
        return found;
    }

    public double mean() {
        int wet = now.wetCells();
        if (wet == 0) {
            return 0;
        }
        return (double) now.sum(now.water) / wet;
    }

    public long digest() {
        long d = 1129;
        for (int what = 0; what < COUNTS; what++) {
            d = d * 31 + now.tally(what);
        }
        for (int at = 0; at < CELLS; at++) {
            for (int what = 0; what < CELL_NUMBERS; what++) {
                d = d * 31 + now.cellNumber(at, what);
            }
        }
        for (int hour = 0; hour < TABLE_HOURS; hour++) {
            d = d * 31 + now.rain[hour];
        }
        return d;
    }

    private int leaveIfNothingIsDone(int hours) {
        ahead.becomeLike(now);
        return ahead.goHours(hours);
    }

    private int leaveWithDam(int at, int dam, int hours) {
        ahead.becomeLike(now);
        ahead.dam[at] = dam;
        ahead.wear[at] = 0;
        return ahead.goHours(hours);
    }

    private static int placeOf(int x, int y) {
        requireIndex(x, 0, SIDE - 1);
        requireIndex(y, 0, SIDE - 1);
        return SIDE * y + x;
    }

    private static void requireIndex(int number, int least, int most) {
        if (number < least || number > most) {
            throw new IndexOutOfBoundsException("no such cell, hour or number");
        }
    }

    private static void requireWithin(int number, int least, int most) {
        if (number < least || number > most) {
            throw new IllegalArgumentException("a number out of its bounds");
        }
    }

    /** The cells of a plain as they are in one hour, and how they go on from there. */
    private static final class Plain {
        final int[] height = new int[CELLS];
        final int[] water = new int[CELLS];
        final int[] dam = new int[CELLS];
        final int[] wear = new int[CELLS];
        final int[] drain = new int[CELLS];
        final int[] people = new int[CELLS];
        final int[] rain = new int[TABLE_HOURS];
        int hour;
        int broken;
        int drained;
        int left;

        private final int[] crests = new int[CELLS];
        private final int[] gained = new int[CELLS];
        private final int[] seen = new int[CELLS];
        private final int[] found = new int[CELLS];

        Plain() {
            Arrays.fill(height, FIRST_HEIGHT);
        }

        void becomeLike(Plain other) {
            System.arraycopy(other.height, 0, height, 0, CELLS);
            System.arraycopy(other.water, 0, water, 0, CELLS);
            System.arraycopy(other.dam, 0, dam, 0, CELLS);
            System.arraycopy(other.wear, 0, wear, 0, CELLS);
            System.arraycopy(other.drain, 0, drain, 0, CELLS);
            System.arraycopy(other.people, 0, people, 0, CELLS);
            System.arraycopy(other.rain, 0, rain, 0, TABLE_HOURS);
            hour = other.hour;
            broken = other.broken;
            drained = other.drained;
            left = other.left;
        }

        /** Returns how many people leave in these hours. */
        int goHours(int hours) {
            int before = left;
            for (int gone = 0; gone < hours; gone++) {
                goOneHour();
            }
            return left - before;
        }

        void goOneHour() {
            letRainFall();
            letWaterRun();
            wearDams();
            drainCells();
            leaveTowns();
            hour++;
        }

        private void letRainFall() {
            // floorMod, since the hour may wrap round below 0 in an object used without end
            int falls = rain[Math.floorMod(hour, TABLE_HOURS)];
            for (int at = 0; at < CELLS; at++) {
                water[at] += falls;
            }
        }

        private void letWaterRun() {
            for (int at = 0; at < CELLS; at++) {
                crests[at] = crestOf(at);
            }
            Arrays.fill(gained, 0);
            for (int at = 0; at < CELLS; at++) {
                if (water[at] > dam[at]) {
                    give(at, lowestNeighbour(at));
                }
            }
            for (int at = 0; at < CELLS; at++) {
                water[at] += gained[at];
            }
        }

        private void give(int from, int to) {
            if (to < 0) {
                return;
            }
            int higher = levelOf(from) - crests[to];
            if (higher > 0) {
                int given = Math.min(higher / 2, water[from] - dam[from]);
                gained[from] -= given;
                gained[to] += given;
            }
        }

        private int lowestNeighbour(int at) {
            int lowest = -1;
            for (int side = 0; side < NEIGHBOURS; side++) {
                int next = neighbourOf(at, side);
                if (next >= 0 && (lowest < 0 || crests[next] < crests[lowest])) {
                    lowest = next;
                }
            }
            return lowest;
        }

        private void wearDams() {
            for (int at = 0; at < CELLS; at++) {
                if (dam[at] > 0 && water[at] >= dam[at]) {
                    wear[at]++;
                    if (wear[at] >= WORN_OUT) {
                        dam[at] = 0;
                        wear[at] = 0;
                        broken++;
                    }
                }
            }
        }

        private void drainCells() {
            for (int at = 0; at < CELLS; at++) {
                int taken = Math.min(drain[at], water[at]);
                water[at] -= taken;
                drained += taken;
            }
        }

        private void leaveTowns() {
            for (int at = 0; at < CELLS; at++) {
                if (water[at] >= FLOOD_WATER) {
                    int leave = Math.min(people[at] / 3 + 1, people[at]);
                    people[at] -= leave;
                    left += leave;
                }
            }
        }

        int levelOf(int at) {
            return height[at] + water[at];
        }

        int crestOf(int at) {
            return height[at] + Math.max(dam[at], water[at]);
        }

        int cellNumber(int at, int what) {
            switch (what) {
                case 0: return height[at];
                case 1: return water[at];
                case 2: return dam[at];
                case 3: return wear[at];
                case 4: return drain[at];
                case 5: return people[at];
                case 6: return levelOf(at);
                default: return crestOf(at);
            }
        }

        int tally(int what) {
            switch (what) {
                case 0: return hour;
                case 1: return sum(water);
                case 2: return wetCells();
                case 3: return above0(dam);
                case 4: return broken;
                case 5: return drained;
                case 6: return sum(people);
                case 7: return left;
                default: return lakes();
            }
        }

        int wetCells() {
            return above0(water);
        }

        int sum(int[] numbers) {
            int all = 0;
            for (int number : numbers) {
                all += number;
            }
            return all;
        }

        private int above0(int[] numbers) {
            int many = 0;
            for (int number : numbers) {
                if (number > 0) {
                    many++;
                }
            }
            return many;
        }

        int lakeSize(int at) {
            Arrays.fill(seen, 0);
            return spreadFrom(at);
        }

        private int lakes() {
            Arrays.fill(seen, 0);
            int many = 0;
            for (int at = 0; at < CELLS; at++) {
                if (spreadFrom(at) > 0) {
                    many++;
                }
            }
            return many;
        }

        /** Marks the lake of a cell as seen; returns how many of its cells were not yet so. */
        private int spreadFrom(int start) {
            int end = meet(start, 0);
            for (int next = 0; next < end && next < CELLS; next++) {
                for (int side = 0; side < NEIGHBOURS; side++) {
                    end = meet(neighbourOf(found[next], side), end);
                }
            }
            return end;
        }

        /** Puts a wet cell not yet seen behind those found; returns how many are found then. */
        private int meet(int at, int end) {
            if (at < 0 || end >= CELLS || seen[at] != 0 || water[at] <= 0) {
                return end;
            }
            seen[at] = 1;
            found[end] = at;
            return end + 1;
        }

        /** Sides are 0 left, 1 right, 2 above, 3 below; -1 if the plain ends there. */
        private static int neighbourOf(int at, int side) {
            int x = at % SIDE;
            int y = at / SIDE;
            switch (side) {
                case 0: return x > 0 ? at - 1 : -1;
                case 1: return x < SIDE - 1 ? at + 1 : -1;
                case 2: return y > 0 ? at - SIDE : -1;
                default: return y < SIDE - 1 ? at + SIDE : -1;
            }
        }
    }
}
