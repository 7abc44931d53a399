import java.util.ArrayList;
import java.util.List;

/** The document once more, for ModelTest: a plain of one hour; cells are by what cell() tells, x and y. */
final class Model {
    static final int HEIGHT = 0;
    static final int WATER = 1;
    static final int DAM = 2;
    static final int WEAR = 3;
    static final int DRAIN = 4;
    static final int PEOPLE = 5;

    private final int[][][] is = new int[6][8][8];
    private final int[] rain = new int[12];
    private int hour;
    private int broken;
    private int drained;
    int left;

    Model() {
        for (int[] column : is[HEIGHT]) {
            java.util.Arrays.fill(column, 10);
        }
    }

    private Model copy() {
        Model other = new Model();
        for (int what = 0; what < 6; what++) {
            for (int x = 0; x < 8; x++) {
                other.is[what][x] = is[what][x].clone();
            }
        }
        System.arraycopy(rain, 0, other.rain, 0, 12);
        other.hour = hour;
        other.broken = broken;
        other.drained = drained;
        other.left = left;
        return other;
    }

    private static boolean in(int x, int y) {
        return x >= 0 && x <= 7 && y >= 0 && y <= 7;
    }

    private static void place(int x, int y) {
        if (!in(x, y)) {
            throw new IndexOutOfBoundsException();
        }
    }

    int set(int what, int x, int y, int n, int most) {
        place(x, y);
        if (n < 0 || n > most) {
            throw new IllegalArgumentException();
        }
        int before = is[what][x][y];
        is[what][x][y] = n;
        if (what == DAM) {
            is[WEAR][x][y] = 0;
        }
        return before;
    }

    int pour(int x, int y, int n) {
        place(x, y);
        if (n < -99 || n > 99) {
            throw new IllegalArgumentException();
        }
        is[WATER][x][y] += n < -is[WATER][x][y] ? -is[WATER][x][y] : n;
        return is[WATER][x][y];
    }

    int setRain(int at, int n) {
        if (at < 0 || at > 11) {
            throw new IndexOutOfBoundsException();
        }
        if (n < 0 || n > 9) {
            throw new IllegalArgumentException();
        }
        int before = rain[at];
        rain[at] = n;
        return before;
    }

    private int level(int x, int y) {
        return is[HEIGHT][x][y] + is[WATER][x][y];
    }

    private int dammed(int x, int y) {
        return is[HEIGHT][x][y] + is[DAM][x][y];
    }

    private int crest(int x, int y) {
        return dammed(x, y) > level(x, y) ? dammed(x, y) : level(x, y);
    }

    int cell(int x, int y, int what) {
        place(x, y);
        if (what < 0 || what > 7) {
            throw new IndexOutOfBoundsException();
        }
        return what == 7 ? crest(x, y) : what == 6 ? level(x, y) : is[what][x][y];
    }

    private static List<int[]> neighbours(int x, int y) {
        List<int[]> all = new ArrayList<>();
        for (int[] at : new int[][] {{x - 1, y}, {x + 1, y}, {x, y - 1}, {x, y + 1}}) {
            if (in(at[0], at[1])) {
                all.add(at);
            }
        }
        return all;
    }

    int lake(int x, int y) {
        place(x, y);
        return gather(x, y, new boolean[8][8]);
    }

    private int gather(int x, int y, boolean[][] seen) {
        if (seen[x][y] || is[WATER][x][y] == 0) {
            return 0;
        }
        seen[x][y] = true;
        int many = 1;
        for (int[] next : neighbours(x, y)) {
            many += gather(next[0], next[1], seen);
        }
        return many;
    }

    private int lakes() {
        boolean[][] seen = new boolean[8][8];
        int many = 0;
        for (int x = 0; x < 8; x++) {
            for (int y = 0; y < 8; y++) {
                many += gather(x, y, seen) > 0 ? 1 : 0;
            }
        }
        return many;
    }

    private int sum(int what, boolean cells) {
        int all = 0;
        for (int[] column : is[what]) {
            for (int number : column) {
                all += cells ? Integer.signum(number) : number;
            }
        }
        return all;
    }

    int count(int what, int least) {
        if (what < least || what > 8) {
            throw new IndexOutOfBoundsException();
        }
        return new int[] {hour, sum(WATER, false), sum(WATER, true), sum(DAM, true), broken, drained,
            sum(PEOPLE, false), left, lakes()}[what];
    }

    Model after(int hours) {
        Model at = this;
        for (int gone = 0; gone < hours; gone++) {
            at = at.nextHour();
        }
        return at;
    }

    private Model nextHour() {
        Model rained = copy();
        for (int[] column : rained.is[WATER]) {
            for (int y = 0; y < 8; y++) {
                column[y] += rain[hour % 12];
            }
        }
        Model next = rained.copy();
        for (int x = 0; x < 8; x++) {
            for (int y = 0; y < 8; y++) {
                rained.run(x, y, next.is[WATER]);
            }
        }
        for (int x = 0; x < 8; x++) {
            for (int y = 0; y < 8; y++) {
                next.suffer(x, y);
            }
        }
        next.hour++;
        return next;
    }

    private void run(int x, int y, int[][] into) {
        if (is[WATER][x][y] == 0 || level(x, y) <= dammed(x, y)) {
            return;
        }
        int[] lowest = null;
        for (int[] next : neighbours(x, y)) {
            if (lowest == null || crest(next[0], next[1]) < crest(lowest[0], lowest[1])) {
                lowest = next;
            }
        }
        int more = level(x, y) - crest(lowest[0], lowest[1]);
        if (more > 0) {
            int given = Math.min(more / 2, is[WATER][x][y] - is[DAM][x][y]);
            into[x][y] -= given;
            into[lowest[0]][lowest[1]] += given;
        }
    }

    private void suffer(int x, int y) {
        if (is[DAM][x][y] != 0 && is[WATER][x][y] >= is[DAM][x][y] && ++is[WEAR][x][y] == 10) {
            is[DAM][x][y] = 0;
            is[WEAR][x][y] = 0;
            broken++;
        }
        for (int unit = 0; unit < is[DRAIN][x][y] && is[WATER][x][y] > 0; unit++) {
            is[WATER][x][y]--;
            drained++;
        }
        if (is[WATER][x][y] >= 3) {
            int stay = Math.max(0, is[PEOPLE][x][y] - is[PEOPLE][x][y] / 3 - 1);
            left += is[PEOPLE][x][y] - stay;
            is[PEOPLE][x][y] = stay;
        }
    }

    int floods(int x, int y) {
        place(x, y);
        Model at = this;
        for (int hours = 0; hours <= 48; hours++) {
            if (at.is[WATER][x][y] >= 3) {
                return hours;
            }
            at = at.nextHour();
        }
        return -1;
    }

    int breaks(int x, int y) {
        place(x, y);
        Model at = this;
        for (int hours = 1; hours <= 48 && is[DAM][x][y] > 0; hours++) {
            at = at.nextHour();
            if (at.is[DAM][x][y] == 0) {
                return hours;
            }
        }
        return -1;
    }

    private int leave(int hours, int at, int dam) {
        Model tried = copy();
        tried.set(DAM, at % 8, at / 8, dam, 20);
        return tried.after(hours).left - left;
    }

    int holds(int hours) {
        int[] leave = new int[64];
        for (int at = 0; at < 64; at++) {
            leave[at] = is[DAM][at % 8][at / 8] > 0 ? leave(hours, at, 0) : 0;
        }
        int most = after(hours).left - left;
        for (int number : leave) {
            most = Math.max(most, number);
        }
        return most == after(hours).left - left ? -1 : firstOf(leave, most);
    }

    int advise(int hours) {
        int[] leave = new int[64];
        int fewest = after(hours).left - left;
        for (int at = 0; at < 64; at++) {
            leave[at] = leave(hours, at, Math.min(20, 5 + is[DAM][at % 8][at / 8]));
            fewest = Math.min(fewest, leave[at]);
        }
        return fewest == after(hours).left - left ? -1 : firstOf(leave, fewest);
    }

    private static int firstOf(int[] numbers, int number) {
        for (int at = 0; at < numbers.length; at++) {
            if (numbers[at] == number) {
                return at;
            }
        }
        return -1;
    }

    double mean() {
        return sum(WATER, true) == 0 ? 0 : 1.0 * sum(WATER, false) / sum(WATER, true);
    }

    long digest() {
        long d = 1129;
        for (int what = 0; what <= 8; what++) {
            d = d * 31 + count(what, 0);
        }
        for (int at = 0; at < 64; at++) {
            for (int what = 0; what <= 7; what++) {
                d = d * 31 + cell(at % 8, at / 8, what);
            }
        }
        for (int falls : rain) {
            d = d * 31 + falls;
        }
        return d;
    }
}
