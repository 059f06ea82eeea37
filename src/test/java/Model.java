import java.util.ArrayList;
import java.util.Arrays;
import java.util.List;
import java.util.regex.Matcher;
import java.util.regex.Pattern;

/**
 * The document once more, in another way: fractions as written, splitting by recursion, the fewest points by search,
 * texts by a regular expression, states as copies.
 */
final class Model {

    private static final String PLACE = "(0|[1-9][0-9]?)";
    private static final String POINT = PLACE + "," + PLACE + "(w(1[0-9]?|20?|[3-9]))?";
    private static final Pattern TEXT = Pattern.compile(POINT + "(;" + POINT + "){1,23}");

    private record Fraction(long over, long under) {
        boolean isMoreThan(Fraction other) {
            return over * other.under > other.over * under;
        }
    }

    private static final class State {
        final List<int[][]> strokes = new ArrayList<>();
        final List<boolean[]> kept = new ArrayList<>();
        int[] settings = {3, 50, 4, 20};
        int simplified;
        int dropped;

        State copy() {
            State copy = new State();
            for (int k = 0; k < strokes.size(); k++) {
                int[][] points = strokes.get(k);
                int[][] others = new int[points.length][];
                for (int i = 0; i < points.length; i++) {
                    others[i] = points[i].clone();
                }
                copy.strokes.add(others);
                copy.kept.add(kept.get(k).clone());
            }
            copy.settings = settings.clone();
            copy.simplified = simplified;
            copy.dropped = dropped;
            return copy;
        }
    }

    private State now = new State();
    private final List<State> saved = new ArrayList<>();
    private final State[] slots = new State[2];
    private String buffer = "";

    // ---- what a call does

    private void save() {
        saved.add(now.copy());
        if (saved.size() > 6) {
            saved.remove(0);
        }
    }

    private static void index(boolean good) {
        if (!good) {
            throw new IndexOutOfBoundsException();
        }
    }

    private static void argument(boolean good) {
        if (!good) {
            throw new IllegalArgumentException();
        }
    }

    private static void state(boolean good) {
        if (!good) {
            throw new IllegalStateException();
        }
    }

    private static boolean in(int number, int least, int greatest) {
        return least <= number && number <= greatest;
    }

    private int[][] points(int stroke) {
        index(in(stroke, 0, now.strokes.size() - 1));
        return now.strokes.get(stroke);
    }

    private void replace(int stroke, List<int[]> points) {
        now.strokes.set(stroke, points.toArray(new int[0][]));
        now.kept.set(stroke, all(points.size()));
    }

    private static boolean[] all(int size) {
        boolean[] all = new boolean[size];
        Arrays.fill(all, true);
        return all;
    }

    private int add(int[][] points) {
        now.strokes.add(points);
        now.kept.add(all(points.length));
        return now.strokes.size() - 1;
    }

    int stroke(int x, int y, int toX, int toY) {
        argument(in(x, 0, 99) && in(y, 0, 99) && in(toX, 0, 99) && in(toY, 0, 99));
        state(now.strokes.size() < 4);
        save();
        return add(new int[][] {{x, y, 5}, {toX, toY, 5}});
    }

    int draw() {
        argument(TEXT.matcher(buffer).matches());
        state(now.strokes.size() < 4);
        save();
        String[] texts = buffer.split(";");
        int[][] points = new int[texts.length][];
        for (int k = 0; k < texts.length; k++) {
            String[] numbers = texts[k].split("[,w]");
            points[k] = new int[] {Integer.parseInt(numbers[0]), Integer.parseInt(numbers[1]),
                numbers.length == 3 ? Integer.parseInt(numbers[2]) : 5};
        }
        buffer = "";
        return add(points);
    }

    int insert(int stroke, int at, int x, int y, int width) {
        List<int[]> points = new ArrayList<>(Arrays.asList(points(stroke)));
        index(in(at, 0, points.size()));
        argument(in(x, 0, 99) && in(y, 0, 99) && in(width, 1, 20));
        state(points.size() < 24);
        save();
        points.add(at, new int[] {x, y, width});
        replace(stroke, points);
        return points.size();
    }

    int change(int stroke, int at, int x, int y, int width) {
        List<int[]> points = new ArrayList<>(Arrays.asList(points(stroke)));
        index(in(at, 0, points.size() - 1));
        argument(in(x, 0, 99) && in(y, 0, 99) && in(width, 1, 20));
        save();
        int[] previous = points.set(at, new int[] {x, y, width});
        replace(stroke, points);
        return previous[0] * 100 + previous[1];
    }

    int remove(int stroke, int at) {
        List<int[]> points = new ArrayList<>(Arrays.asList(points(stroke)));
        index(in(at, 0, points.size() - 1));
        state(points.size() > 2);
        save();
        points.remove(at);
        replace(stroke, points);
        return points.size();
    }

    int erase(int stroke) {
        points(stroke);
        save();
        now.strokes.remove(stroke);
        now.kept.remove(stroke);
        return now.strokes.size();
    }

    int simplify(int stroke, int way) {
        int[][] points = points(stroke);
        argument(in(way, 0, 1));
        save();
        boolean[] kept = simplified(points, now.settings[0], way);
        now.kept.set(stroke, kept);
        now.simplified++;
        now.dropped += points.length - many(kept);
        return many(kept);
    }

    int bake(int stroke) {
        int[][] points = points(stroke);
        save();
        List<int[]> left = Arrays.asList(keptPoints(stroke));
        replace(stroke, left);
        return points.length - left.size();
    }

    int set(int setting, int value) {
        index(in(setting, 0, 3));
        argument(in(value, setting == 2 ? 1 : 0, new int[] {50, 100, 20, 100}[setting]));
        save();
        int previous = now.settings[setting];
        now.settings[setting] = value;
        return previous;
    }

    int append(int code) {
        argument(in(code, 33, 126));
        state(buffer.length() < 70);
        buffer += (char) code;
        return buffer.length();
    }

    int clearBuffer() {
        int length = buffer.length();
        buffer = "";
        return length;
    }

    int firstError() {
        for (int k = 1; k <= buffer.length(); k++) {
            Matcher matcher = TEXT.matcher(buffer.substring(0, k));
            if (!matcher.matches() && !matcher.hitEnd()) {
                return k - 1;
            }
        }
        return buffer.length();
    }

    int undo() {
        state(!saved.isEmpty());
        now = saved.remove(saved.size() - 1);
        return saved.size();
    }

    int keep(int slot) {
        argument(in(slot, 0, 1));
        slots[slot] = now.copy();
        return now.strokes.size();
    }

    int goBack(int slot) {
        argument(in(slot, 0, 1));
        state(slots[slot] != null);
        save();
        now = slots[slot].copy();
        return now.strokes.size();
    }

    // ---- what a call tells

    int point(int stroke, int at, int what) {
        int[][] points = points(stroke);
        index(in(at, 0, points.length - 1));
        argument(in(what, 0, 5));
        return switch (what) {
            case 3 -> now.kept.get(stroke)[at] ? 1 : 0;
            case 4 -> kind(points, at, now.settings[1]);
            case 5 -> stray(stroke, at);
            default -> points[at][what];
        };
    }

    int strokeOf(int stroke, int what) {
        int[][] points = points(stroke);
        argument(in(what, 0, 10));
        boolean[] kept = now.kept.get(stroke);
        int[][] left = keptPoints(stroke);
        int sum = 0;
        switch (what) {
            case 0: return points.length;
            case 1: return left.length;
            case 2: return kinds(points, 2, now.settings[1]);
            case 3: return kinds(points, 4, now.settings[1]);
            case 4:
                for (int k = 1; k < left.length; k++) {
                    sum += root(10000 * square(left[k - 1], left[k]));
                }
                return sum;
            case 5:
                for (int k = 0; k < points.length; k++) {
                    sum = Math.max(sum, stray(stroke, k));
                }
                return sum;
            case 6:
                int greatest = strokeOf(stroke, 5);
                while (stray(stroke, sum) != greatest) {
                    sum++;
                }
                return sum;
            case 7: return span(points, 0);
            case 8: return span(points, 1);
            case 9: return kinds(left, 2, now.settings[3]);
            default: return mask(kept);
        }
    }

    int distance(int stroke, int at, int from, int to) {
        int[][] points = points(stroke);
        index(in(at, 0, points.length - 1) && in(from, 0, points.length - 1) && in(to, 0, points.length - 1));
        return hundredths(squaredDistance(points[at], points[from], points[to]));
    }

    int crossings(int stroke) {
        points(stroke);
        int[][] left = keptPoints(stroke);
        int crossings = 0;
        for (int one = 0; one + 1 < left.length; one++) {
            for (int other = one + 2; other + 1 < left.length; other++) {
                if (side(left[one], left[one + 1], left[other]) * side(left[one], left[one + 1], left[other + 1]) < 0
                        && side(left[other], left[other + 1], left[one])
                        * side(left[other], left[other + 1], left[one + 1]) < 0) {
                    crossings++;
                }
            }
        }
        return crossings;
    }

    int count(int what) {
        argument(in(what, 0, 6));
        int points = now.strokes.stream().mapToInt(stroke -> stroke.length).sum();
        int kept = now.kept.stream().mapToInt(Model::many).sum();
        return new int[] {now.strokes.size(), points, kept, now.simplified, now.dropped, saved.size(),
            buffer.length()}[what];
    }

    int setting(int setting) {
        index(in(setting, 0, 3));
        return now.settings[setting];
    }

    int nearest(int x, int y) {
        argument(in(x, 0, 99) && in(y, 0, 99));
        long least = Long.MAX_VALUE;
        int nearest = -1;
        for (int k = now.strokes.size() - 1; k >= 0; k--) {
            for (int i = now.strokes.get(k).length - 1; i >= 0; i--) {
                long square = square(now.strokes.get(k)[i], new int[] {x, y});
                if (square <= least) {
                    least = square;
                    nearest = 100 * k + i;
                }
            }
        }
        return nearest;
    }

    int ifSimplified(int stroke, int bound, int way) {
        int[][] points = points(stroke);
        argument(in(bound, 0, 50) && in(way, 0, 1));
        return many(simplified(points, bound, way));
    }

    int leastBound(int stroke, int many, int way) {
        int[][] points = points(stroke);
        argument(in(many, 2, 24) && in(way, 0, 1));
        for (int bound = 0; bound <= 50; bound++) {
            if (many(simplified(points, bound, way)) <= many) {
                return bound;
            }
        }
        return -1;
    }

    double share() {
        return now.strokes.isEmpty() ? 1.0 : (double) count(2) / (double) count(1);
    }

    // ---- geometry

    private static long product(int[] a, int[] b, int[] c, int[] d) {
        return (b[0] - a[0]) * (d[0] - c[0]) + (b[1] - a[1]) * (d[1] - c[1]);
    }

    private static long square(int[] a, int[] b) {
        return product(a, b, a, b);
    }

    private static long side(int[] a, int[] b, int[] point) {
        return Integer.signum((b[0] - a[0]) * (point[1] - a[1]) - (b[1] - a[1]) * (point[0] - a[0]));
    }

    private static Fraction squaredDistance(int[] point, int[] from, int[] to) {
        long t = product(from, point, from, to);
        long q = square(from, to);
        if (t <= 0) {
            return new Fraction(square(from, point), 1);
        }
        if (t >= q) {
            return new Fraction(square(to, point), 1);
        }
        long u = point[0] - from[0];
        long v = point[1] - from[1];
        long c = to[0] - from[0];
        long d = to[1] - from[1];
        return new Fraction((u * d - v * c) * (u * d - v * c), q);
    }

    private static int hundredths(Fraction squared) {
        return root(10000 * squared.over / squared.under);
    }

    private static int root(long number) {
        int root = (int) Math.sqrt((double) number);
        while ((long) root * root > number) {
            root--;
        }
        while ((long) (root + 1) * (root + 1) <= number) {
            root++;
        }
        return root;
    }

    private static int span(int[][] points, int which) {
        int[] numbers = Arrays.stream(points).mapToInt(point -> point[which]).sorted().toArray();
        return numbers[numbers.length - 1] - numbers[0];
    }

    private int kind(int[][] points, int at, int corner) {
        if (at == 0 || at == points.length - 1) {
            return 1;
        }
        long p = product(points[at - 1], points[at], points[at], points[at + 1]);
        long q = square(points[at - 1], points[at]) * square(points[at], points[at + 1]);
        boolean isCorner = p < 0 || (q != 0 && p * p * 10000 < corner * corner * q);
        boolean isWaist = points[at][2] + now.settings[2] <= Math.min(points[at - 1][2], points[at + 1][2]);
        return (isCorner ? 2 : 0) + (isWaist ? 4 : 0);
    }

    private int kinds(int[][] points, int kind, int corner) {
        int many = 0;
        for (int k = 0; k < points.length; k++) {
            many += (kind(points, k, corner) & kind) / kind;
        }
        return many;
    }

    // ---- simplifying

    private static int many(boolean[] kept) {
        return Integer.bitCount(mask(kept));
    }

    private static int mask(boolean[] kept) {
        int mask = 0;
        for (int k = 0; k < kept.length; k++) {
            mask += kept[k] ? 1 << k : 0;
        }
        return mask;
    }

    private int[][] keptPoints(int stroke) {
        List<int[]> left = new ArrayList<>();
        for (int k = 0; k < now.kept.get(stroke).length; k++) {
            if (now.kept.get(stroke)[k]) {
                left.add(now.strokes.get(stroke)[k]);
            }
        }
        return left.toArray(new int[0][]);
    }

    private int stray(int stroke, int at) {
        boolean[] kept = now.kept.get(stroke);
        if (kept[at]) {
            return 0;
        }
        int before = at;
        int behind = at;
        while (!kept[before]) {
            before--;
        }
        while (!kept[behind]) {
            behind++;
        }
        return distance(stroke, at, before, behind);
    }

    private boolean[] simplified(int[][] points, int bound, int way) {
        boolean[] fixed = new boolean[points.length];
        for (int k = 0; k < points.length; k++) {
            fixed[k] = kind(points, k, now.settings[1]) > 0;
        }
        Fraction farthest = new Fraction((long) bound * bound, 1);
        if (way == 0) {
            boolean[] kept = fixed.clone();
            int from = 0;
            for (int k = 1; k < points.length; k++) {
                if (fixed[k]) {
                    split(points, from, k, farthest, kept);
                    from = k;
                }
            }
            return kept;
        }
        return new Search(points, fixed, farthest).fewest();
    }

    private static void split(int[][] points, int from, int to, Fraction bound, boolean[] kept) {
        int one = -1;
        Fraction most = bound;
        for (int k = from + 1; k < to; k++) {
            Fraction distance = squaredDistance(points[k], points[from], points[to]);
            if (distance.isMoreThan(most)) {
                most = distance;
                one = k;
            }
        }
        if (one >= 0) {
            kept[one] = true;
            split(points, from, one, bound, kept);
            split(points, one, to, bound, kept);
        }
    }

    /** Tries all sets of kept points, but for those that are too many already. */
    private static final class Search {
        private final boolean[] fixed;
        private final boolean[][] canSkip;
        private int fewest = Integer.MAX_VALUE;
        private int least = Integer.MAX_VALUE;

        Search(int[][] points, boolean[] fixed, Fraction bound) {
            this.fixed = fixed;
            canSkip = new boolean[points.length][points.length];
            for (int from = 0; from < points.length; from++) {
                for (int to = from + 1; to < points.length; to++) {
                    canSkip[from][to] = true;
                    for (int k = from + 1; k < to; k++) {
                        canSkip[from][to] &= !fixed[k]
                                && !squaredDistance(points[k], points[from], points[to]).isMoreThan(bound);
                    }
                }
            }
        }

        boolean[] fewest() {
            from(0, 1, 1);
            boolean[] kept = new boolean[fixed.length];
            for (int k = 0; k < kept.length; k++) {
                kept[k] = (least >> k & 1) == 1;
            }
            return kept;
        }

        private void from(int at, int many, int mask) {
            if (many > fewest) {
                return;
            }
            if (at == fixed.length - 1) {
                if (many < fewest || mask < least) {
                    fewest = many;
                    least = mask;
                }
                return;
            }
            for (int to = fixed.length - 1; to > at; to--) {
                if (canSkip[at][to]) {
                    from(to, many + 1, mask | 1 << to);
                }
            }
        }
    }
}
