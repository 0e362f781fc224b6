/**
 * Works marked by sheets of words and by markers: whether a sheet makes sense, how alike markers
 * are, what they are off by, whether their marks drift, and what a new sheet changes.
 */
public final class MarkSheets {
    public static final int BAD = -100, STATE = -200, FULL = -300, NONE = -900;

    private static final int SHEETS = 2, LINES = 4, LEVELS = 4, KINDS = 3;
    private static final int FACTS = 4, MARKERS = 3, MARKS = 4, WORKS = 12, DRIFT_WORKS = 6;
    private static final int TOP_FACT = 9, TOP_WEIGHT = 9;
    private static final int STRICT = 0, FILLED = 1;
    private static final int ABOUT_SPANS = 3, ABOUT_END = ABOUT_SPANS + 2 * LEVELS;

    private static final int STRICT_TRACE = 1, FILLED_TRACE = 10, KIND_TRACE = 100;

    private final Line[] lines = new Line[SHEETS * LINES];
    private final Work[] works = new Work[WORKS];
    private int workCount = 0;
    private long traced = 0;

    // Rows that single calls fill and read; made once, because what a run makes is counted.
    private final int[] pile = new int[DRIFT_WORKS];
    private final int[] unplaced = new int[MARKS];
    private final int[] oldPoints = new int[WORKS];
    private final int[] newPoints = new int[WORKS];

    public MarkSheets() {
        for (int i = 0; i < SHEETS * LINES; i++) {
            lines[i] = new Line(i % LINES);
        }
    }

    // ---- sheets

    public int line(int sheet, int line, int kind, int fact, int weight) {
        Line changed = lineAt(sheet, line);
        if (changed == null || !isBelow(kind, KINDS) || !isBelow(fact, FACTS) || !isUpTo(weight, TOP_WEIGHT)) {
            return BAD;
        }
        changed.kind = kind;
        changed.fact = fact;
        changed.weight = weight;
        return 1;
    }

    public int span(int sheet, int line, int level, int from, int to) {
        Line changed = lineAt(sheet, line);
        if (changed == null || !isBelow(level, LEVELS) || !isUpTo(from, TOP_FACT) || !isUpTo(to, TOP_FACT)) {
            return BAD;
        }
        changed.from[level] = from;
        changed.to[level] = to;
        return 1;
    }

    public int about(int sheet, int line, int what) {
        Line asked = lineAt(sheet, line);
        if (asked == null || !isBelow(what, ABOUT_END)) {
            return BAD;
        }
        if (what < ABOUT_SPANS) {
            return what == 0 ? asked.kind : what == 1 ? asked.fact : asked.weight;
        }
        int level = (what - ABOUT_SPANS) / 2;
        boolean isFrom = (what - ABOUT_SPANS) % 2 == 0;
        return isFrom ? asked.from[level] : asked.to[level];
    }

    public int level(int sheet, int line, int v) {
        Line asked = lineAt(sheet, line);
        if (asked == null || !isUpTo(v, TOP_FACT)) {
            return BAD;
        }
        traced += asked.traceOfAsking();
        return asked.levelFor(v);
    }

    public int sense(int sheet, int line, int what) {
        Line asked = lineAt(sheet, line);
        if (asked == null || !isBelow(what, 2)) {
            return BAD;
        }
        return what == 0 ? asked.gaps() : asked.overlaps();
    }

    public int sensible(int sheet, int line) {
        Line asked = lineAt(sheet, line);
        if (asked == null) {
            return BAD;
        }
        return asked.isSensible() ? 1 : 0;
    }

    // ---- works, marks

    public int work(int a, int b, int c, int d) {
        if (!isUpTo(a, TOP_FACT) || !isUpTo(b, TOP_FACT) || !isUpTo(c, TOP_FACT) || !isUpTo(d, TOP_FACT)) {
            return BAD;
        }
        if (workCount >= WORKS) {
            return FULL;
        }
        works[workCount] = new Work(a, b, c, d);
        workCount++;
        return workCount - 1;
    }

    public int fact(int work, int i, int v) {
        Work changed = workAt(work);
        if (changed == null || !isBelow(i, FACTS) || !isUpTo(v, TOP_FACT)) {
            return BAD;
        }
        int was = changed.facts[i];
        changed.facts[i] = v;
        return was;
    }

    public int points(int sheet, int work) {
        Work asked = workAt(work);
        if (asked == null || !isBelow(sheet, SHEETS)) {
            return BAD;
        }
        return pointsBy(sheet, asked);
    }

    public int mark(int marker, int work, int v) {
        Work changed = workAt(work);
        if (changed == null || !isBelow(marker, MARKERS) || !isMarkOrNone(v)) {
            return BAD;
        }
        int was = changed.marks[marker];
        changed.marks[marker] = v;
        return was;
    }

    public int given(int marker, int work) {
        Work asked = workAt(work);
        if (asked == null || !isBelow(marker, MARKERS)) {
            return BAD;
        }
        return asked.marks[marker];
    }

    public int like(int one, int other, int part) {
        if (!areTwoMarkers(one, other) || !isBelow(part, 3)) {
            return BAD;
        }
        int both = countBothMarked(one, other);
        if (part == 2) {
            return both;
        }
        int chance = chanceOfAlike(one, other);
        return partOfRatio(countAlike(one, other) * both - chance, both * both - chance, part);
    }

    public int parts(int one, int other) {
        if (!areTwoMarkers(one, other)) {
            return BAD;
        }
        int widest = 0;
        int answer = NONE;
        for (int i = 0; i < workCount; i++) {
            Work work = works[i];
            if (work.isMarkedByBoth(one, other)) {
                int apart = Math.abs(work.marks[one] - work.marks[other]);
                if (apart > widest) {
                    widest = apart;
                    answer = i;
                }
            }
        }
        return answer;
    }

    // ---- anchors, drift

    public int anchor(int work, int v) {
        Work changed = workAt(work);
        if (changed == null || !isMarkOrNone(v)) {
            return BAD;
        }
        int was = changed.trueMark;
        changed.trueMark = v;
        return was;
    }

    public int off(int marker, int part) {
        if (!isBelow(marker, MARKERS) || !isBelow(part, 3)) {
            return BAD;
        }
        int anchors = countMarkedAnchors(marker);
        return part == 2 ? anchors : partOfRatio(sumOffAnchors(marker), anchors, part);
    }

    public int fair(int marker, int work) {
        Work asked = workAt(work);
        if (asked == null || !isBelow(marker, MARKERS)) {
            return BAD;
        }
        int anchors = countMarkedAnchors(marker);
        if (!asked.isMarkedBy(marker) || anchors <= 0) {
            return STATE;
        }
        int upper = asked.marks[marker] * anchors - sumOffAnchors(marker);
        // The floor of a number and a half is its nearest whole number, a half going up.
        int nearest = Math.floorDiv(2 * upper + anchors, 2 * anchors);
        return Math.max(0, Math.min(MARKS - 1, nearest));
    }

    public int drift(int marker, int what) {
        if (!isBelow(marker, MARKERS) || !isBelow(what, 3)) {
            return BAD;
        }
        int size = gatherPile(marker);
        if (what == 2) {
            return size;
        }
        int drift = driftOfPile(size);
        return what == 0 ? drift : oddsOfPile(size, drift);
    }

    // ---- two sheets

    public int moves(int what) {
        if (!isBelow(what, 2)) {
            return BAD;
        }
        for (int i = 0; i < workCount; i++) {
            oldPoints[i] = pointsBy(0, works[i]);
            newPoints[i] = pointsBy(1, works[i]);
        }
        return what == 0 ? countMoved() : countTurned();
    }

    public int copy(int way) {
        if (!isBelow(way, 3)) {
            return BAD;
        }
        for (int i = 0; i < LINES; i++) {
            Line first = lines[i];
            Line second = lines[LINES + i];
            if (way == 0) {
                second.becomeAs(first);
            } else if (way == 1) {
                first.becomeAs(second);
            } else {
                lines[i] = second;
                lines[LINES + i] = first;
            }
        }
        return 1;
    }

    public int count(int what) {
        switch (what) {
            case 0:
                return workCount;
            case 1:
                return countAnchors();
            case 2:
                return countMarks();
            case 3:
                return countSensible(0);
            case 4:
                return countSensible(1);
            default:
                return BAD;
        }
    }

    public long trace() {
        return traced;
    }

    // ---- what a number may be

    private static boolean isBelow(int number, int end) {
        return number >= 0 && number < end;
    }

    private static boolean isUpTo(int number, int top) {
        return number >= 0 && number <= top;
    }

    private static boolean isMarkOrNone(int v) {
        return v == NONE || isBelow(v, MARKS);
    }

    private static boolean areTwoMarkers(int one, int other) {
        return isBelow(one, MARKERS) && isBelow(other, MARKERS) && one != other;
    }

    /** Null, if there is no such LINE. */
    private Line lineAt(int sheet, int line) {
        return isBelow(sheet, SHEETS) && isBelow(line, LINES) ? lines[sheet * LINES + line] : null;
    }

    /** Null, if there is no such WORK. */
    private Work workAt(int work) {
        return isBelow(work, workCount) ? works[work] : null;
    }

    // ---- sums over lines and works

    private int pointsBy(int sheet, Work work) {
        int sum = 0;
        for (int i = 0; i < LINES; i++) {
            Line line = lines[sheet * LINES + i];
            int reached = line.levelFor(work.facts[line.fact]);
            if (reached != NONE) {
                sum += line.weight * reached;
            }
        }
        return sum;
    }

    private int countSensible(int sheet) {
        int found = 0;
        for (int i = 0; i < LINES; i++) {
            if (lines[sheet * LINES + i].isSensible()) {
                found++;
            }
        }
        return found;
    }

    private int countAnchors() {
        int found = 0;
        for (int i = 0; i < workCount; i++) {
            if (works[i].isAnchor()) {
                found++;
            }
        }
        return found;
    }

    private int countMarks() {
        int found = 0;
        for (int i = 0; i < workCount; i++) {
            for (int marker = 0; marker < MARKERS; marker++) {
                if (works[i].isMarkedBy(marker)) {
                    found++;
                }
            }
        }
        return found;
    }

    private int countMoved() {
        int found = 0;
        for (int i = 0; i < workCount; i++) {
            if (oldPoints[i] != newPoints[i]) {
                found++;
            }
        }
        return found;
    }

    private int countTurned() {
        int found = 0;
        for (int i = 0; i < workCount; i++) {
            for (int j = 0; j < workCount; j++) {
                // Seen from the one that had more, each turned pair comes once.
                if (oldPoints[i] > oldPoints[j] && newPoints[i] < newPoints[j]) {
                    found++;
                }
            }
        }
        return found;
    }

    // ---- likeness and off

    private int countBothMarked(int one, int other) {
        int found = 0;
        for (int i = 0; i < workCount; i++) {
            if (works[i].isMarkedByBoth(one, other)) {
                found++;
            }
        }
        return found;
    }

    private int countAlike(int one, int other) {
        int found = 0;
        for (int i = 0; i < workCount; i++) {
            if (works[i].isMarkedByBoth(one, other) && works[i].marks[one] == works[i].marks[other]) {
                found++;
            }
        }
        return found;
    }

    private int chanceOfAlike(int one, int other) {
        int sum = 0;
        for (int mark = 0; mark < MARKS; mark++) {
            sum += countGave(one, other, mark) * countGave(other, one, mark);
        }
        return sum;
    }

    /** How often a marker gave a mark, among the WORKS that it and its fellow both marked. */
    private int countGave(int marker, int fellow, int mark) {
        int found = 0;
        for (int i = 0; i < workCount; i++) {
            if (works[i].isMarkedByBoth(marker, fellow) && works[i].marks[marker] == mark) {
                found++;
            }
        }
        return found;
    }

    private int countMarkedAnchors(int marker) {
        int found = 0;
        for (int i = 0; i < workCount; i++) {
            if (works[i].isAnchor() && works[i].isMarkedBy(marker)) {
                found++;
            }
        }
        return found;
    }

    private int sumOffAnchors(int marker) {
        int sum = 0;
        for (int i = 0; i < workCount; i++) {
            if (works[i].isAnchor() && works[i].isMarkedBy(marker)) {
                sum += works[i].marks[marker] - works[i].trueMark;
            }
        }
        return sum;
    }

    /** The upper (0) or lower part of a ratio in least form; STATE without a lower part. */
    private static int partOfRatio(int upper, int lower, int part) {
        if (lower <= 0) {
            return STATE;
        }
        int divisor = lower;
        while (divisor > 1 && (upper % divisor != 0 || lower % divisor != 0)) {
            divisor--;
        }
        return (part == 0 ? upper : lower) / divisor;
    }

    // ---- drift

    /** Fills the pile with the marker's first marks: how many they are. */
    private int gatherPile(int marker) {
        int size = 0;
        for (int i = 0; i < workCount && size < DRIFT_WORKS; i++) {
            if (works[i].isMarkedBy(marker)) {
                pile[size] = works[i].marks[marker];
                size++;
            }
        }
        return size;
    }

    private int driftOfPile(int size) {
        int drift = 0;
        for (int later = 1; later < size; later++) {
            for (int earlier = 0; earlier < later; earlier++) {
                drift += Integer.compare(pile[later], pile[earlier]);
            }
        }
        return drift;
    }

    private int oddsOfPile(int size, int drift) {
        for (int mark = 0; mark < MARKS; mark++) {
            unplaced[mark] = countInPile(size, mark);
        }
        return countOrders(unplaced, size, drift);
    }

    private int countInPile(int size, int mark) {
        int found = 0;
        for (int i = 0; i < size; i++) {
            if (pile[i] == mark) {
                found++;
            }
        }
        return found;
    }

    /** Of the orders of the unplaced marks (todo of them), how many drift by wanted or more. */
    private static int countOrders(int[] unplaced, int todo, int wanted) {
        if (todo <= 0) {
            return wanted <= 0 ? 1 : 0;
        }
        int orders = 0;
        for (int mark = 0; mark < unplaced.length; mark++) {
            int same = unplaced[mark];
            if (same > 0) {
                unplaced[mark] = same - 1;
                // Each of the same marks could be the next one, and the orders behind it are alike.
                orders += same * countOrders(unplaced, todo - 1, wanted - driftBehind(mark, unplaced));
                unplaced[mark] = same;
            }
        }
        return orders;
    }

    /** RISES less FALLS from a mark to all the unplaced ones, which come later than it. */
    private static int driftBehind(int mark, int[] unplaced) {
        int drift = 0;
        for (int later = 0; later < unplaced.length; later++) {
            drift += unplaced[later] * Integer.compare(later, mark);
        }
        return drift;
    }

    /** A line of a sheet: its numbers are held to the document's bounds by those who set them. */
    private static final class Line {
        int kind = STRICT;
        int fact;
        int weight = 1;
        final int[] from = new int[LEVELS];
        final int[] to = new int[LEVELS];

        Line(int fact) {
            this.fact = fact;
            for (int k = 1; k < LEVELS; k++) {
                from[k] = 3 * k - 2;
                to[k] = 3 * k;
            }
        }

        void becomeAs(Line other) {
            kind = other.kind;
            fact = other.fact;
            weight = other.weight;
            for (int k = 0; k < LEVELS; k++) {
                from[k] = other.from[k];
                to[k] = other.to[k];
            }
        }

        /** Each KIND's body starts from what the one over it says, so the bodies come in that order. */
        int levelFor(int v) {
            int strict = strictLevel(v);
            if (kind == STRICT) {
                return strict;
            }
            int filled = strict == NONE ? greatestBelow(v) : strict;
            return kind == FILLED ? filled : kindLevel(filled, v);
        }

        /** A KIND's body asks, once each, all the bodies that stand over it. */
        int traceOfAsking() {
            if (kind == STRICT) {
                return STRICT_TRACE;
            }
            return kind == FILLED ? FILLED_TRACE + STRICT_TRACE : KIND_TRACE + FILLED_TRACE + STRICT_TRACE;
        }

        private int strictLevel(int v) {
            for (int k = LEVELS - 1; k >= 0; k--) {
                if (spanHas(k, v)) {
                    return k;
                }
            }
            return NONE;
        }

        private int kindLevel(int up, int v) {
            // An empty SPAN has no last fact, so v must stand in it as well as at its end.
            boolean isLast = spanHas(up, v) && to[up] == v;
            return isLast ? Math.min(LEVELS - 1, up + 1) : up;
        }

        private int greatestBelow(int v) {
            for (int k = LEVELS - 1; k >= 0; k--) {
                if (from[k] <= to[k] && to[k] < v) {
                    return k;
                }
            }
            return 0;
        }

        private boolean spanHas(int k, int v) {
            return from[k] <= v && v <= to[k];
        }

        private int countSpansWith(int v) {
            int found = 0;
            for (int k = 0; k < LEVELS; k++) {
                if (spanHas(k, v)) {
                    found++;
                }
            }
            return found;
        }

        int gaps() {
            int bits = 0;
            for (int v = 0; v <= TOP_FACT; v++) {
                if (countSpansWith(v) == 0) {
                    bits |= 1 << v;
                }
            }
            return bits;
        }

        int overlaps() {
            int bits = 0;
            for (int v = 0; v <= TOP_FACT; v++) {
                if (countSpansWith(v) >= 2) {
                    bits |= 1 << v;
                }
            }
            return bits;
        }

        boolean isSensible() {
            return gaps() == 0 && overlaps() == 0 && neverFalls();
        }

        private boolean neverFalls() {
            for (int v = 1; v <= TOP_FACT; v++) {
                if (levelFor(v) < levelFor(v - 1)) {
                    return false;
                }
            }
            return true;
        }
    }

    /** A work with what the markers gave it, and its TRUE mark, if it is an ANCHOR. */
    private static final class Work {
        final int[] facts = new int[FACTS];
        final int[] marks = new int[MARKERS];
        int trueMark = NONE;

        Work(int a, int b, int c, int d) {
            facts[0] = a;
            facts[1] = b;
            facts[2] = c;
            facts[3] = d;
            for (int marker = 0; marker < MARKERS; marker++) {
                marks[marker] = NONE;
            }
        }

        boolean isAnchor() {
            return trueMark != NONE;
        }

        boolean isMarkedBy(int marker) {
            return marks[marker] != NONE;
        }

        boolean isMarkedByBoth(int one, int other) {
            return isMarkedBy(one) && isMarkedBy(other);
        }
    }
}
