import java.math.BigInteger;
import java.util.ArrayList;
import java.util.List;
import java.util.TreeSet;

/** The document's words taken as plainly as can be, for RunsTest: slow, and in other ways than PointMill. */
final class SlowMill {
    /** The answer of a count that would take too long here. */
    static final long UNKNOWN = Long.MIN_VALUE;

    private static final long MOST_PLACES = 60_000;

    private final List<List<int[]>> shapes = new ArrayList<>();
    private final TreeSet<Integer> coins = new TreeSet<>();

    int shape() {
        if (shapes.size() == 8) {
            throw new IllegalStateException();
        }
        shapes.add(new ArrayList<>());
        return shapes.size() - 1;
    }

    int add(int shape, int a, int b, int c, int e) {
        List<int[]> rows = rows(shape);
        ask(Math.abs((long) a) <= 9 && Math.abs((long) b) <= 9 && Math.abs((long) c) <= 99 && Math.abs((long) e) <= 9);
        ask(a != 0 || b != 0);
        return append(rows, a, b, c, e);
    }

    int cut(int shape, int one, int some, int other, int more, int by) {
        List<int[]> rows = rows(shape);
        int[] first = row(rows, one);
        int[] second = row(rows, other);
        ask(within(some, 0, 9) && within(more, 0, 9) && within(by, 1, 20));
        int a = some * first[0] + more * second[0];
        int b = some * first[1] + more * second[1];
        double c = Math.floor((some * first[2] + more * second[2]) / (double) by);
        stand(first[3] == 0 && second[3] == 0);
        stand(a / by * by == a && b / by * by == b);
        stand(a != 0 || b != 0);
        stand(within(a / by, -60, 60) && within(b / by, -60, 60) && c >= -999 && c <= 999);
        return append(rows, a / by, b / by, (int) c, 0);
    }

    int move(int shape, int move) {
        List<int[]> rows = rows(shape);
        ask(within(move, 0, 2));
        List<int[]> moved = new ArrayList<>();
        for (int[] r : rows) {
            int[] next = {
                new int[] {r[1], r[0], -r[0]}[move], new int[] {r[0], r[1] - r[0], r[1]}[move], r[2], r[3]
            };
            stand(within(next[1], -60, 60));
            moved.add(next);
        }
        shapes.set(shape, moved);
        return moved.size();
    }

    int inequality(int shape, int inequality, int what) {
        int[] row = row(rows(shape), inequality);
        ask(within(what, 0, 3));
        return row[what];
    }

    /** Steps at right angles to a row of it are enough: an endless part has such an edge. */
    boolean isPlace(int shape) {
        List<int[]> rows = rows(shape);
        for (int x = -60; x <= 60; x++) {
            for (int y = -60; y <= 60; y++) {
                boolean goes = x != 0 || y != 0;
                for (int i = 0; goes && i < rows.size(); i++) {
                    goes = rows.get(i)[0] * x + rows.get(i)[1] * y <= 0;
                }
                if (goes) {
                    return false;
                }
            }
        }
        return true;
    }

    long count(int shape, int letter) {
        rows(shape);
        ask(within(letter, 0, 9));
        stand(isPlace(shape));
        long[] seen = look(limits(shape, 1, letter), 0, 0, false);
        return seen == null ? UNKNOWN : seen[0];
    }

    long countAnew(int shape, int letter) {
        return count(shape, letter);
    }

    long blown(int shape, int times, boolean inner) {
        rows(shape);
        ask(within(times, 0, 9));
        stand(isPlace(shape));
        long[] seen = look(limits(shape, times, 0), 0, 0, inner);
        return seen == null ? UNKNOWN : seen[0];
    }

    long best(int shape, int letter, int p, int q, int what) {
        rows(shape);
        ask(within(letter, 0, 9) && within(p, -99, 99) && within(q, -99, 99) && within(what, 0, 2));
        stand(isPlace(shape));
        long[] seen = look(limits(shape, 1, letter), p, q, false);
        if (seen == null) {
            return UNKNOWN;
        }
        stand(seen[0] > 0);
        return seen[1 + what];
    }

    int index(int x, int y, int v, int w) {
        return Math.abs(cross(cone(x, y, v, w)));
    }

    int generator(int x, int y, int v, int w, int place, boolean first) {
        if (place < -1) {
            throw new IndexOutOfBoundsException();
        }
        List<int[]> all = generators(cone(x, y, v, w));
        if (place == -1) {
            return all.size();
        }
        if (place >= all.size()) {
            throw new IndexOutOfBoundsException();
        }
        return all.get(place)[first ? 0 : 1];
    }

    int generatorAnew(int x, int y, int v, int w, int place, boolean first) {
        return generator(x, y, v, w, place, first);
    }

    int coin(int value) {
        ask(within(value, 1, 60));
        if (!coins.remove(value)) {
            stand(coins.size() < 6);
            coins.add(value);
        }
        return coins.size();
    }

    long ways(int sum) {
        ask(within(sum, 0, 1000));
        long[] left = new long[sum + 1];
        left[sum] = 1;
        for (int value : coins) {
            long[] next = new long[sum + 1];
            for (int i = 0; i <= sum; i++) {
                for (int j = i; left[i] != 0 && j >= 0; j -= value) {
                    next[j] += left[i];
                }
            }
            left = next;
        }
        return left[0];
    }

    int gap(int place) {
        if (place < -1) {
            throw new IndexOutOfBoundsException();
        }
        List<Integer> gaps = gaps();
        if (place == -1) {
            return gaps.size();
        }
        if (place >= gaps.size()) {
            throw new IndexOutOfBoundsException();
        }
        return gaps.get(place);
    }

    int greatestGap() {
        List<Integer> gaps = gaps();
        return gaps.isEmpty() ? -1 : gaps.get(gaps.size() - 1);
    }

    int tables(int one, int two, int first, int next) {
        ask(within(one, 0, 60) && within(two, 0, 60) && within(first, 0, 60) && within(next, 0, 60));
        int found = 0;
        for (int a = 0; a <= one; a++) {
            for (int b = 0; b <= one - a; b++) {
                int c = one - a - b;
                int d = first - a;
                int e = next - b;
                int f = two - d - e;
                found += d >= 0 && e >= 0 && f >= 0 && c >= 0 ? 1 : 0;
            }
        }
        return found;
    }

    private static void ask(boolean holds) {
        if (!holds) {
            throw new IllegalArgumentException();
        }
    }

    private static void stand(boolean holds) {
        if (!holds) {
            throw new IllegalStateException();
        }
    }

    private static boolean within(int value, int least, int most) {
        return value >= least && value <= most;
    }

    private List<int[]> rows(int shape) {
        if (shape < 0 || shape >= shapes.size()) {
            throw new IndexOutOfBoundsException();
        }
        return shapes.get(shape);
    }

    private static int[] row(List<int[]> rows, int number) {
        if (number < 0 || number >= rows.size()) {
            throw new IndexOutOfBoundsException();
        }
        return rows.get(number);
    }

    private static int append(List<int[]> rows, int... row) {
        stand(rows.size() < 10);
        rows.add(row);
        return rows.size() - 1;
    }

    private List<long[]> limits(int shape, int times, int letter) {
        List<long[]> limits = new ArrayList<>();
        for (int[] r : rows(shape)) {
            limits.add(new long[] {r[0], r[1], (long) times * r[2] + (long) letter * r[3]});
        }
        return limits;
    }

    private static boolean holds(List<long[]> limits, long x, long y, long times, boolean inner) {
        for (long[] l : limits) {
            long sum = l[0] * x + l[1] * y;
            if (inner ? sum >= l[2] * times : sum > l[2] * times) {
                return false;
            }
        }
        return true;
    }

    /** How many points; the greatest sum of the best one, its x, its y. Null if they are too many. */
    private static long[] look(List<long[]> limits, int p, int q, boolean inner) {
        long[] box = box(limits);
        if (box[0] > box[1] || box[2] > box[3]) {
            return new long[4];
        }
        if ((box[1] - box[0] + 1) * (box[3] - box[2] + 1) > MOST_PLACES) {
            return null;
        }
        long[] seen = new long[4];
        for (long x = box[0]; x <= box[1]; x++) {
            for (long y = box[2]; y <= box[3]; y++) {
                if (holds(limits, x, y, 1, inner)) {
                    long sum = p * x + q * y;
                    if (seen[0]++ == 0 || sum > seen[1]) {
                        seen[1] = sum;
                        seen[2] = x;
                        seen[3] = y;
                    }
                }
            }
        }
        return seen;
    }

    /** The box round all corners, and a bit more: where two edges cross, and all inequalities are so. */
    private static long[] box(List<long[]> limits) {
        long[] box = {Long.MAX_VALUE, Long.MIN_VALUE, Long.MAX_VALUE, Long.MIN_VALUE};
        for (long[] k : limits) {
            for (long[] l : limits) {
                long by = k[0] * l[1] - k[1] * l[0];
                long x = k[2] * l[1] - k[1] * l[2];
                long y = k[0] * l[2] - k[2] * l[0];
                if (by > 0 && holds(limits, x, y, by, false)) {
                    box[0] = Math.min(box[0], x / by - 1);
                    box[1] = Math.max(box[1], x / by + 1);
                    box[2] = Math.min(box[2], y / by - 1);
                    box[3] = Math.max(box[3], y / by + 1);
                }
            }
        }
        return box;
    }

    private static int[] cone(int x, int y, int v, int w) {
        ask(within(x, -20, 20) && within(y, -20, 20) && within(v, -20, 20) && within(w, -20, 20));
        ask(x * w != y * v);
        int first = BigInteger.valueOf(x).gcd(BigInteger.valueOf(y)).intValue();
        int last = BigInteger.valueOf(v).gcd(BigInteger.valueOf(w)).intValue();
        return new int[] {x / first, y / first, v / last, w / last};
    }

    private static int cross(int[] cone) {
        return cone[0] * cone[3] - cone[1] * cone[2];
    }

    private static boolean isIn(int[] cone, int x, int y) {
        int sign = cross(cone) < 0 ? -1 : 1;
        return sign * (x * cone[3] - y * cone[2]) >= 0 && sign * (cone[0] * y - cone[1] * x) >= 0;
    }

    /** A generator lies among the sums with numbers of 0 to 1: from another one a side can be taken. */
    private static List<int[]> generators(int[] cone) {
        List<int[]> vectors = new ArrayList<>();
        for (int x = -40; x <= 40; x++) {
            for (int y = -40; y <= 40; y++) {
                boolean isSmall = isIn(cone, x, y) && isIn(cone, cone[0] + cone[2] - x, cone[1] + cone[3] - y);
                if (isSmall && (x != 0 || y != 0)) {
                    vectors.add(new int[] {x, y});
                }
            }
        }
        List<int[]> found = new ArrayList<>();
        for (int[] v : vectors) {
            boolean isSum = false;
            for (int[] part : vectors) {
                int x = v[0] - part[0];
                int y = v[1] - part[1];
                isSum = isSum || (x != 0 || y != 0) && isIn(cone, x, y);
            }
            if (!isSum) {
                found.add(v);
            }
        }
        int sign = cross(cone) < 0 ? -1 : 1;
        found.sort((one, other) -> -sign * (one[0] * other[1] - one[1] * other[0]));
        return found;
    }

    private List<Integer> gaps() {
        BigInteger divisor = BigInteger.ZERO;
        for (int value : coins) {
            divisor = divisor.gcd(BigInteger.valueOf(value));
        }
        stand(divisor.equals(BigInteger.ONE));
        boolean[] isPaid = new boolean[5000];
        isPaid[0] = true;
        List<Integer> gaps = new ArrayList<>();
        for (int sum = 1; sum < isPaid.length; sum++) {
            for (int value : coins) {
                isPaid[sum] |= sum >= value && isPaid[sum - value];
            }
            if (!isPaid[sum]) {
                gaps.add(sum);
            }
        }
        return gaps;
    }
}
