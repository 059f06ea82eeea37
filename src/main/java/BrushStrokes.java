/** Brush strokes that are simplified; ../shared/DOC.md says what each call answers. */
public final class BrushStrokes {

    public static final int NONE = -1;

    private static final int MAX_STROKES = 4;
    private static final int MIN_POINTS = 2;
    private static final int MAX_POINTS = 24;
    private static final int MAX_PLACE = 99;
    private static final int MIN_WIDTH = 1;
    private static final int MAX_WIDTH = 20;
    private static final int USUAL_WIDTH = 5;
    private static final int MAX_TEXT = 70;
    private static final int MAX_SAVED = 6;
    private static final int SLOTS = 2;

    private static final int SPLITTING = 0;
    private static final int FEWEST = 1;

    private static final int BOUND = 0;
    private static final int CORNER = 1;
    private static final int WAIST = 2;
    private static final int JOIN = 3;
    private static final int MAX_BOUND = 50;
    private static final int[] FIRST_VALUES = {3, 50, 4, 20};
    private static final int[] LEAST_VALUES = {0, 0, 1, 0};
    private static final int[] GREATEST_VALUES = {50, 100, 20, 100};

    private static final int END_KIND = 1;
    private static final int CORNER_KIND = 2;
    private static final int WAIST_KIND = 4;

    private final Sheet sheet;
    private final History history;
    private final Sheet[] snapshots;
    private final StrokeText text;
    private final Simplifier simplifier;

    public BrushStrokes() {
        sheet = new Sheet();
        history = new History();
        snapshots = new Sheet[SLOTS];
        text = new StrokeText();
        simplifier = new Simplifier();
    }

    // ---- strokes and points

    public int stroke(int x, int y, int toX, int toY) throws IllegalArgumentException, IllegalStateException {
        requirePlace(x, y);
        requirePlace(toX, toY);
        requireRoomForStroke();
        history.save(sheet);
        Stroke added = sheet.openStroke();
        added.addPoint(x, y, USUAL_WIDTH);
        added.addPoint(toX, toY, USUAL_WIDTH);
        return sheet.strokeCount() - 1;
    }

    public int draw() throws IllegalArgumentException, IllegalStateException {
        if (!text.tellsStroke()) {
            throw new IllegalArgumentException("the buffer is not a complete stroke text");
        }
        requireRoomForStroke();
        history.save(sheet);
        sheet.openStroke().copyFrom(text.told());
        text.empty();
        return sheet.strokeCount() - 1;
    }

    public int insert(int stroke, int index, int x, int y, int width)
            throws IndexOutOfBoundsException, IllegalArgumentException, IllegalStateException {
        Stroke longer = existingStroke(stroke);
        if (index < 0 || index > longer.size()) {
            throw new IndexOutOfBoundsException("no point can get this number");
        }
        requirePlace(x, y);
        requireWidth(width);
        if (longer.size() >= MAX_POINTS) {
            throw new IllegalStateException("the stroke has no room for a point");
        }
        history.save(sheet);
        longer.insertPoint(index, x, y, width);
        return longer.size();
    }

    public int change(int stroke, int index, int x, int y, int width)
            throws IndexOutOfBoundsException, IllegalArgumentException {
        Stroke changed = existingStroke(stroke);
        requirePoint(changed, index);
        requirePlace(x, y);
        requireWidth(width);
        history.save(sheet);
        int previous = 100 * changed.x(index) + changed.y(index);
        changed.putPoint(index, x, y, width);
        changed.keepAll();
        return previous;
    }

    public int remove(int stroke, int index) throws IndexOutOfBoundsException, IllegalStateException {
        Stroke shorter = existingStroke(stroke);
        requirePoint(shorter, index);
        if (shorter.size() <= MIN_POINTS) {
            throw new IllegalStateException("the stroke has only two points");
        }
        history.save(sheet);
        shorter.removePoint(index);
        return shorter.size();
    }

    public int erase(int stroke) throws IndexOutOfBoundsException {
        requireStroke(stroke);
        history.save(sheet);
        sheet.closeStroke(stroke);
        return sheet.strokeCount();
    }

    public int simplify(int stroke, int way) throws IndexOutOfBoundsException, IllegalArgumentException {
        Stroke simpler = existingStroke(stroke);
        requireWay(way);
        history.save(sheet);
        int kept = simplifier.keptPoints(simpler, sheet.fixedPoints(simpler), sheet.value(BOUND), way);
        simpler.keepOnly(kept);
        sheet.noteSimplified(simpler.size() - simpler.keptCount());
        return simpler.keptCount();
    }

    public int bake(int stroke) throws IndexOutOfBoundsException {
        Stroke baked = existingStroke(stroke);
        history.save(sheet);
        int before = baked.size();
        baked.removeUnkept();
        return before - baked.size();
    }

    public int set(int setting, int value) throws IndexOutOfBoundsException, IllegalArgumentException {
        requireSetting(setting);
        requireBetween(value, cell(LEAST_VALUES, setting), cell(GREATEST_VALUES, setting));
        history.save(sheet);
        int previous = sheet.value(setting);
        sheet.putValue(setting, value);
        return previous;
    }

    // ---- stroke text

    public int append(int code) throws IllegalArgumentException, IllegalStateException {
        requireBetween(code, 33, 126);
        if (text.length() >= MAX_TEXT) {
            throw new IllegalStateException("the buffer is full");
        }
        text.addCode(code);
        return text.length();
    }

    public int clearBuffer() {
        int length = text.length();
        text.empty();
        return length;
    }

    public int firstError() {
        return text.readToError();
    }

    // ---- undo and snapshots

    public int undo() throws IllegalStateException {
        if (history.size() == 0) {
            throw new IllegalStateException("no state is saved");
        }
        history.restoreLast(sheet);
        return history.size();
    }

    public int keep(int slot) throws IllegalArgumentException {
        if (slot < 0 || slot >= snapshots.length) {
            throw new IllegalArgumentException("there is no such slot");
        }
        Sheet snapshot = snapshots[slot];
        if (snapshot == null) {
            snapshot = new Sheet();
            snapshots[slot] = snapshot;
        }
        snapshot.copyFrom(sheet);
        return sheet.strokeCount();
    }

    public int goBack(int slot) throws IllegalArgumentException, IllegalStateException {
        if (slot < 0 || slot >= snapshots.length) {
            throw new IllegalArgumentException("there is no such slot");
        }
        Sheet snapshot = snapshots[slot];
        if (snapshot == null) {
            throw new IllegalStateException("the slot is empty");
        }
        history.save(sheet);
        sheet.copyFrom(snapshot);
        return sheet.strokeCount();
    }

    // ---- queries; nothing changes

    public int point(int stroke, int index, int what) throws IndexOutOfBoundsException, IllegalArgumentException {
        Stroke asked = existingStroke(stroke);
        requirePoint(asked, index);
        switch (what) {
            case 0: return asked.x(index);
            case 1: return asked.y(index);
            case 2: return asked.width(index);
            case 3: return asked.isKept(index) ? 1 : 0;
            case 4: return asked.kind(index, sheet.value(CORNER), sheet.value(WAIST));
            case 5: return asked.stray(index);
            default: throw new IllegalArgumentException("a point has no such number");
        }
    }

    public int strokeOf(int stroke, int what) throws IndexOutOfBoundsException, IllegalArgumentException {
        Stroke asked = existingStroke(stroke);
        switch (what) {
            case 0: return asked.size();
            case 1: return asked.keptCount();
            case 2: return sheet.countKind(asked, CORNER_KIND);
            case 3: return sheet.countKind(asked, WAIST_KIND);
            case 4: return asked.keptLength();
            case 5: return asked.stray(asked.firstOfGreatestStray());
            case 6: return asked.firstOfGreatestStray();
            case 7: return asked.spanX();
            case 8: return asked.spanY();
            case 9: return asked.sharpJoins(sheet.value(JOIN));
            case 10: return asked.kept();
            default: throw new IllegalArgumentException("a stroke has no such number");
        }
    }

    public int distance(int stroke, int index, int from, int to) throws IndexOutOfBoundsException {
        Stroke asked = existingStroke(stroke);
        requirePoint(asked, index);
        requirePoint(asked, from);
        requirePoint(asked, to);
        return asked.hundredths(index, from, to);
    }

    public int crossings(int stroke) throws IndexOutOfBoundsException {
        return existingStroke(stroke).countCrossings();
    }

    public int count(int what) throws IllegalArgumentException {
        switch (what) {
            case 0: return sheet.strokeCount();
            case 1: return sheet.allPoints();
            case 2: return sheet.allKept();
            case 3: return sheet.simplified();
            case 4: return sheet.dropped();
            case 5: return history.size();
            case 6: return text.length();
            default: throw new IllegalArgumentException("there is no such number");
        }
    }

    public int setting(int setting) throws IndexOutOfBoundsException {
        requireSetting(setting);
        return sheet.value(setting);
    }

    public int nearest(int x, int y) throws IllegalArgumentException {
        requirePlace(x, y);
        return sheet.nearestPoint(x, y);
    }

    // ---- what would be; nothing changes

    public int ifSimplified(int stroke, int bound, int way)
            throws IndexOutOfBoundsException, IllegalArgumentException {
        Stroke asked = existingStroke(stroke);
        requireBetween(bound, 0, MAX_BOUND);
        requireWay(way);
        return Integer.bitCount(simplifier.keptPoints(asked, sheet.fixedPoints(asked), bound, way));
    }

    public int leastBound(int stroke, int many, int way)
            throws IndexOutOfBoundsException, IllegalArgumentException {
        Stroke asked = existingStroke(stroke);
        requireBetween(many, MIN_POINTS, MAX_POINTS);
        requireWay(way);
        return simplifier.leastBoundFor(asked, sheet.fixedPoints(asked), many, way);
    }

    public double share() {
        double all = (double) sheet.allPoints();
        if (all <= 0.0) {
            return 1.0;
        }
        return (double) sheet.allKept() / all;
    }

    // ---- what a call asks of its arguments

    private void requireStroke(int number) {
        if (number < 0 || number >= sheet.strokeCount()) {
            throw new IndexOutOfBoundsException("there is no such stroke");
        }
    }

    private Stroke existingStroke(int number) {
        requireStroke(number);
        return sheet.strokeAt(number);
    }

    private void requireRoomForStroke() {
        if (sheet.strokeCount() >= MAX_STROKES) {
            throw new IllegalStateException("there is no room for a stroke");
        }
    }

    private static void requirePoint(Stroke stroke, int index) {
        if (index < 0 || index >= stroke.size()) {
            throw new IndexOutOfBoundsException("there is no such point");
        }
    }

    private static void requireSetting(int setting) {
        if (setting < 0 || setting >= FIRST_VALUES.length) {
            throw new IndexOutOfBoundsException("there is no such setting");
        }
    }

    private static void requirePlace(int x, int y) {
        requireBetween(x, 0, MAX_PLACE);
        requireBetween(y, 0, MAX_PLACE);
    }

    private static void requireWidth(int width) {
        requireBetween(width, MIN_WIDTH, MAX_WIDTH);
    }

    private static void requireWay(int way) {
        requireBetween(way, SPLITTING, FEWEST);
    }

    private static void requireBetween(int value, int least, int greatest) {
        if (value < least || value > greatest) {
            throw new IllegalArgumentException("an argument is out of range");
        }
    }

    // ---- rows and numbers

    // What is no point of a stroke is read and written through these two, so that no index can be out of its row.
    private static int cell(int[] row, int index) {
        return index >= 0 && index < row.length ? row[index] : 0;
    }

    private static void putCell(int[] row, int index, int value) {
        if (index >= 0 && index < row.length) {
            row[index] = value;
        }
    }

    private static void copyRow(int[] from, int[] to) {
        System.arraycopy(from, 0, to, 0, Math.min(from.length, to.length));
    }

    private static boolean hasBit(int mask, int index) {
        return index >= 0 && index < MAX_POINTS && (mask >> index & 1) != 0;
    }

    // The squares here are at most 10000 * 2 * 99 * 99, so that the root has fewer than 15 bits.
    private static int root(long square) {
        int root = 0;
        for (int bit = 1 << 14; bit > 0; bit >>= 1) {
            long tried = root + bit;
            if (tried * tried <= square) {
                root += bit;
            }
        }
        return root;
    }

    /** The points of one stroke, and which of them are kept. */
    private static final class Stroke {
        private static final int NUMBERS = 3;

        // x, y and width of the point 0, then of the point 1, ..
        private final int[] numbers;
        private int size;
        private int kept;

        Stroke() {
            numbers = new int[NUMBERS * MAX_POINTS];
        }

        int size() {
            return size;
        }

        // These look at the index themselves and not by cell(): they stand at the end of the deepest calls.
        int x(int index) {
            int at = NUMBERS * index;
            return at >= 0 && at < numbers.length ? numbers[at] : 0;
        }

        int y(int index) {
            int at = NUMBERS * index + 1;
            return at >= 0 && at < numbers.length ? numbers[at] : 0;
        }

        int width(int index) {
            int at = NUMBERS * index + 2;
            return at >= 0 && at < numbers.length ? numbers[at] : 0;
        }

        int kept() {
            return kept;
        }

        boolean isKept(int index) {
            return hasBit(kept, index);
        }

        int keptCount() {
            return Integer.bitCount(kept);
        }

        void keepAll() {
            kept = (1 << size) - 1;
        }

        void keepOnly(int points) {
            kept = points;
        }

        void copyFrom(Stroke other) {
            copyRow(other.numbers, numbers);
            size = other.size;
            kept = other.kept;
        }

        void removeAll() {
            size = 0;
            kept = 0;
        }

        void putPoint(int index, int x, int y, int width) {
            int at = NUMBERS * index;
            if (at >= 0 && at < numbers.length - 2) {
                numbers[at] = x;
                numbers[at + 1] = y;
                numbers[at + 2] = width;
            }
        }

        void addPoint(int x, int y, int width) {
            if (size < MAX_POINTS) {
                putPoint(size, x, y, width);
                size++;
                keepAll();
            }
        }

        void insertPoint(int index, int x, int y, int width) {
            if (size >= MAX_POINTS) {
                return;
            }
            for (int k = size; k > index; k--) {
                putPoint(k, x(k - 1), y(k - 1), width(k - 1));
            }
            putPoint(index, x, y, width);
            size++;
            keepAll();
        }

        void removePoint(int index) {
            for (int k = index; k < size - 1; k++) {
                putPoint(k, x(k + 1), y(k + 1), width(k + 1));
            }
            size--;
            keepAll();
        }

        void removeUnkept() {
            int left = 0;
            for (int k = 0; k < size; k++) {
                if (isKept(k)) {
                    putPoint(left, x(k), y(k), width(k));
                    left++;
                }
            }
            size = left;
            keepAll();
        }

        int keptBefore(int index) {
            for (int k = index - 1; k > 0; k--) {
                if (isKept(k)) {
                    return k;
                }
            }
            return 0;
        }

        int keptBehind(int index) {
            for (int k = index + 1; k < size; k++) {
                if (isKept(k)) {
                    return k;
                }
            }
            return size - 1;
        }

        // ---- vectors

        long square(int from, int to) {
            long across = x(to) - x(from);
            long down = y(to) - y(from);
            return across * across + down * down;
        }

        /** The product of the vector to the point from the one before with the vector from it to the next one. */
        long productAt(int before, int index, int next) {
            return (long) (x(index) - x(before)) * (x(next) - x(index))
                    + (long) (y(index) - y(before)) * (y(next) - y(index));
        }

        /** Above 0 on one side of the line, below 0 on the other, 0 on it. */
        long sideOf(int index, int from, int to) {
            return (long) (x(to) - x(from)) * (y(index) - y(from)) - (long) (y(to) - y(from)) * (x(index) - x(from));
        }

        // ---- distances

        // A squared distance from a segment is spread() / scale(), exactly; scale() depends on the segment alone, so
        // that the spreads of one segment compare as its distances do.
        long spread(int index, int from, int to) {
            long u = x(index) - x(from);
            long v = y(index) - y(from);
            long c = x(to) - x(from);
            long d = y(to) - y(from);
            long along = u * c + v * d;
            long square = c * c + d * d;
            if (along <= 0) {
                return (u * u + v * v) * Math.max(square, 1L);
            }
            if (along >= square) {
                return ((u - c) * (u - c) + (v - d) * (v - d)) * square;
            }
            return (u * d - v * c) * (u * d - v * c);
        }

        // Without a length every spread is a whole squared distance already.
        long scale(int from, int to) {
            return Math.max(square(from, to), 1L);
        }

        int hundredths(int index, int from, int to) {
            long scale = scale(from, to);
            if (scale <= 0) {
                return 0;
            }
            return root(10000 * spread(index, from, to) / scale);
        }

        int stray(int index) {
            return isKept(index) ? 0 : hundredths(index, keptBefore(index), keptBehind(index));
        }

        int firstOfGreatestStray() {
            int first = 0;
            int greatest = 0;
            for (int k = 0; k < size; k++) {
                int stray = stray(k);
                if (stray > greatest) {
                    greatest = stray;
                    first = k;
                }
            }
            return first;
        }

        /** The first of the points between that are farthest from the segment; from itself if all lie on it. */
        int farthestBetween(int from, int to) {
            int farthest = from;
            long most = 0;
            for (int k = from + 1; k < to; k++) {
                long spread = spread(k, from, to);
                if (spread > most) {
                    most = spread;
                    farthest = k;
                }
            }
            return farthest;
        }

        // ---- kinds of points

        boolean isEnd(int index) {
            return index == 0 || index == size - 1;
        }

        boolean isSharp(int before, int index, int next, int sharpness) {
            long product = productAt(before, index, next);
            long squares = square(before, index) * square(index, next);
            return product < 0
                    || squares != 0 && product * product * 10000 < (long) sharpness * sharpness * squares;
        }

        boolean isThin(int index, int difference) {
            int wider = width(index) + difference;
            return wider <= width(index - 1) && wider <= width(index + 1);
        }

        int kind(int index, int corner, int waist) {
            if (isEnd(index)) {
                return END_KIND;
            }
            return (isSharp(index - 1, index, index + 1, corner) ? CORNER_KIND : 0)
                    + (isThin(index, waist) ? WAIST_KIND : 0);
        }

        // ---- the simplified stroke

        int keptLength() {
            int length = 0;
            for (int k = 1; k < size; k++) {
                if (isKept(k)) {
                    length += root(10000 * square(keptBefore(k), k));
                }
            }
            return length;
        }

        int sharpJoins(int join) {
            int joins = 0;
            for (int k = 1; k < size - 1; k++) {
                if (isKept(k) && isSharp(keptBefore(k), k, keptBehind(k), join)) {
                    joins++;
                }
            }
            return joins;
        }

        int countCrossings() {
            int crossings = 0;
            for (int end = 1; end < size; end++) {
                if (isKept(end)) {
                    crossings += crossingsBehind(end);
                }
            }
            return crossings;
        }

        // The pairs of the segment that ends at a kept point with the later ones that do not begin there.
        private int crossingsBehind(int end) {
            int start = keptBefore(end);
            int crossings = 0;
            for (int from = end + 1; from < size - 1; from++) {
                if (isKept(from) && cross(start, end, from, keptBehind(from))) {
                    crossings++;
                }
            }
            return crossings;
        }

        private boolean cross(int a, int b, int c, int d) {
            return areApart(a, b, c, d) && areApart(c, d, a, b);
        }

        private boolean areApart(int a, int b, int one, int other) {
            long side = sideOf(one, a, b);
            long otherSide = sideOf(other, a, b);
            return side < 0 && otherSide > 0 || side > 0 && otherSide < 0;
        }

        // ---- all points

        int spanX() {
            int least = x(0);
            int greatest = x(0);
            for (int k = 1; k < size; k++) {
                least = Math.min(least, x(k));
                greatest = Math.max(greatest, x(k));
            }
            return greatest - least;
        }

        int spanY() {
            int least = y(0);
            int greatest = y(0);
            for (int k = 1; k < size; k++) {
                least = Math.min(least, y(k));
                greatest = Math.max(greatest, y(k));
            }
            return greatest - least;
        }

        int squareTo(int index, int x, int y) {
            int across = x(index) - x;
            int down = y(index) - y;
            return across * across + down * down;
        }
    }

    /** Finds the kept points of a simplified stroke, as bit masks; its rows are used again by every call. */
    private static final class Simplifier {
        // for each pair of points the least bound with which all points between them can go
        private final int[] needs;
        // for each point how few points are kept up to it, and which
        private final int[] counts;
        private final int[] masks;

        Simplifier() {
            needs = new int[MAX_POINTS * MAX_POINTS];
            counts = new int[MAX_POINTS];
            masks = new int[MAX_POINTS];
        }

        int keptPoints(Stroke stroke, int fixed, int bound, int way) {
            if (way == SPLITTING) {
                return split(stroke, fixed, bound);
            }
            measure(stroke, fixed);
            return fewest(stroke.size(), bound);
        }

        int leastBoundFor(Stroke stroke, int fixed, int many, int way) {
            if (way == FEWEST) {
                measure(stroke, fixed);
            }
            for (int bound = 0; bound <= MAX_BOUND; bound++) {
                int kept = way == FEWEST ? fewest(stroke.size(), bound) : split(stroke, fixed, bound);
                if (Integer.bitCount(kept) <= many) {
                    return bound;
                }
            }
            return NONE;
        }

        // Each step keeps one point more or goes on to the next kept one.
        private int split(Stroke stroke, int fixed, int bound) {
            int last = stroke.size() - 1;
            int kept = fixed;
            int from = 0;
            for (int step = 0; step < 2 * MAX_POINTS && from < last; step++) {
                int to = nextOf(kept, from, last);
                int farthest = stroke.farthestBetween(from, to);
                if (isWithin(bound, stroke.spread(farthest, from, to), stroke.scale(from, to))) {
                    from = to;
                } else {
                    kept |= 1 << farthest;
                }
            }
            return kept;
        }

        private int nextOf(int mask, int index, int last) {
            for (int k = index + 1; k < last; k++) {
                if (hasBit(mask, k)) {
                    return k;
                }
            }
            return last;
        }

        private void measure(Stroke stroke, int fixed) {
            for (int to = 1; to < stroke.size(); to++) {
                boolean fixedBetween = false;
                for (int from = to - 1; from >= 0; from--) {
                    int need = fixedBetween ? MAX_BOUND + 1 : leastWithin(stroke, from, to);
                    putCell(needs, from * MAX_POINTS + to, need);
                    fixedBetween = fixedBetween || hasBit(fixed, from);
                }
            }
        }

        private int leastWithin(Stroke stroke, int from, int to) {
            long spread = stroke.spread(stroke.farthestBetween(from, to), from, to);
            long scale = stroke.scale(from, to);
            int bound = 0;
            while (bound <= MAX_BOUND && !isWithin(bound, spread, scale)) {
                bound++;
            }
            return bound;
        }

        private static boolean isWithin(int bound, long spread, long scale) {
            return spread <= (long) bound * bound * scale;
        }

        // Of several sets with as few points, the one with the lowest point before the last is the least number: it
        // has the lowest bits. So the first that is found stays.
        private int fewest(int size, int bound) {
            putCell(counts, 0, 1);
            putCell(masks, 0, 1);
            for (int to = 1; to < size; to++) {
                int before = to - 1;
                int few = MAX_POINTS + 1;
                for (int from = 0; from < to; from++) {
                    if (cell(needs, from * MAX_POINTS + to) <= bound && cell(counts, from) < few) {
                        few = cell(counts, from);
                        before = from;
                    }
                }
                putCell(counts, to, cell(counts, before) + 1);
                putCell(masks, to, cell(masks, before) | 1 << to);
            }
            return cell(masks, size - 1);
        }
    }

    /** A state: all that is saved, undone and kept in snapshots. */
    private static final class Sheet {
        private final Stroke[] strokes;
        private final Stroke nothing;
        private final int[] values;
        private int strokeCount;
        private int simplified;
        private int dropped;

        Sheet() {
            strokes = new Stroke[MAX_STROKES];
            for (int k = 0; k < strokes.length; k++) {
                strokes[k] = new Stroke();
            }
            nothing = new Stroke();
            values = FIRST_VALUES.clone();
        }

        void copyFrom(Sheet other) {
            for (int k = 0; k < other.strokeCount; k++) {
                strokeAt(k).copyFrom(other.strokeAt(k));
            }
            copyRow(other.values, values);
            strokeCount = other.strokeCount;
            simplified = other.simplified;
            dropped = other.dropped;
        }

        int strokeCount() {
            return strokeCount;
        }

        // A number without a place finds a stroke without points, so that nobody has to ask for null.
        Stroke strokeAt(int number) {
            Stroke found = number >= 0 && number < strokes.length ? strokes[number] : nothing;
            return found == null ? nothing : found;
        }

        Stroke openStroke() {
            Stroke opened = strokeAt(strokeCount);
            opened.removeAll();
            strokeCount++;
            return opened;
        }

        void closeStroke(int number) {
            for (int k = number; k < strokeCount - 1; k++) {
                strokeAt(k).copyFrom(strokeAt(k + 1));
            }
            strokeCount--;
        }

        int value(int setting) {
            return cell(values, setting);
        }

        void putValue(int setting, int value) {
            putCell(values, setting, value);
        }

        int simplified() {
            return simplified;
        }

        int dropped() {
            return dropped;
        }

        void noteSimplified(int points) {
            simplified++;
            dropped += points;
        }

        int fixedPoints(Stroke stroke) {
            int fixed = 0;
            for (int k = 0; k < stroke.size(); k++) {
                if (stroke.kind(k, value(CORNER), value(WAIST)) != 0) {
                    fixed |= 1 << k;
                }
            }
            return fixed;
        }

        int countKind(Stroke stroke, int kind) {
            int many = 0;
            for (int k = 0; k < stroke.size(); k++) {
                if ((stroke.kind(k, value(CORNER), value(WAIST)) & kind) != 0) {
                    many++;
                }
            }
            return many;
        }

        int allPoints() {
            int all = 0;
            for (int k = 0; k < strokeCount; k++) {
                all += strokeAt(k).size();
            }
            return all;
        }

        int allKept() {
            int all = 0;
            for (int k = 0; k < strokeCount; k++) {
                all += strokeAt(k).keptCount();
            }
            return all;
        }

        int nearestPoint(int x, int y) {
            int nearest = NONE;
            int least = 0;
            for (int number = 0; number < strokeCount; number++) {
                Stroke stroke = strokeAt(number);
                for (int k = 0; k < stroke.size(); k++) {
                    int square = stroke.squareTo(k, x, y);
                    if (nearest == NONE || square < least) {
                        least = square;
                        nearest = 100 * number + k;
                    }
                }
            }
            return nearest;
        }
    }

    /** The saved states, in a ring whose sheets are used again. */
    private static final class History {
        private final Sheet[] ring;
        private int oldest;
        private int size;

        History() {
            ring = new Sheet[MAX_SAVED];
        }

        int size() {
            return size;
        }

        void save(Sheet sheet) {
            if (size == MAX_SAVED) {
                oldest = (oldest + 1) % MAX_SAVED;
                size--;
            }
            int place = (oldest + size) % MAX_SAVED;
            if (place < 0 || place >= ring.length) {
                return;
            }
            Sheet saved = ring[place];
            if (saved == null) {
                saved = new Sheet();
                ring[place] = saved;
            }
            saved.copyFrom(sheet);
            size++;
        }

        void restoreLast(Sheet sheet) {
            int place = (oldest + size - 1) % MAX_SAVED;
            if (place < 0 || place >= ring.length) {
                return;
            }
            Sheet saved = ring[place];
            if (saved != null) {
                sheet.copyFrom(saved);
            }
            size--;
        }
    }

    /** The buffer, and the stroke that it tells. */
    private static final class StrokeText {
        private static final int X_PART = 0;
        private static final int Y_PART = 1;
        private static final int WIDTH_PART = 2;

        private final int[] codes;
        private int length;

        // the points that are read and ended, and the one that is being read
        private final Stroke told;
        private int part;
        private int digits;
        private int number;
        private int x;
        private int y;

        StrokeText() {
            codes = new int[MAX_TEXT];
            told = new Stroke();
        }

        int length() {
            return length;
        }

        Stroke told() {
            return told;
        }

        void empty() {
            length = 0;
        }

        void addCode(int code) {
            putCell(codes, length, code);
            length++;
        }

        int readToError() {
            told.removeAll();
            beginPart(X_PART);
            for (int k = 0; k < length; k++) {
                if (!reads(cell(codes, k))) {
                    return k;
                }
            }
            return length;
        }

        /** Tells whether the text is complete; then told() has all its points. */
        boolean tellsStroke() {
            if (readToError() < length || digits == 0 || part == X_PART) {
                return false;
            }
            endPoint();
            return told.size() >= MIN_POINTS;
        }

        private void beginPart(int begun) {
            part = begun;
            digits = 0;
            number = 0;
        }

        private boolean reads(int code) {
            if (code >= '0' && code <= '9') {
                return readsDigit(code - '0');
            }
            if (digits == 0) {
                return false;
            }
            if (code == ',' && part == X_PART) {
                x = number;
                beginPart(Y_PART);
                return true;
            }
            if (code == 'w' && part == Y_PART) {
                y = number;
                beginPart(WIDTH_PART);
                return true;
            }
            // the point behind the sign needs room too
            if (code == ';' && part != X_PART && told.size() + 1 < MAX_POINTS) {
                endPoint();
                beginPart(X_PART);
                return true;
            }
            return false;
        }

        private boolean readsDigit(int digit) {
            boolean leadingZero = digits > 0 && number == 0;
            int longer = 10 * number + digit;
            int least = part == WIDTH_PART ? MIN_WIDTH : 0;
            int greatest = part == WIDTH_PART ? MAX_WIDTH : MAX_PLACE;
            if (leadingZero || longer < least || longer > greatest) {
                return false;
            }
            number = longer;
            digits++;
            return true;
        }

        private void endPoint() {
            if (part == WIDTH_PART) {
                told.addPoint(x, y, number);
            } else {
                told.addPoint(x, number, USUAL_WIDTH);
            }
        }
    }
}
