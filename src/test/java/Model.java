import java.util.ArrayList;
import java.util.Collections;
import java.util.List;
import java.util.TreeMap;

/** The document told once more, by sets and lists, with everything counted out. */
final class Model {
    static final int BAD = -100, STATE = -200, FULL = -300, NONE = -900;

    /** KIND, FACT, WEIGHT, then from and to of each LEVEL: as about() tells them. */
    private int[][][] sheets = new int[2][4][];
    private final List<int[]> works = new ArrayList<>();
    private final List<TreeMap<Integer, Integer>> marks = new ArrayList<>();
    private final TreeMap<Integer, Integer> anchors = new TreeMap<>();
    private long trace = 0;

    Model() {
        for (int[][] sheet : sheets) {
            for (int i = 0; i < 4; i++) {
                sheet[i] = new int[] {0, i, 1, 0, 0, 1, 3, 4, 6, 7, 9};
            }
        }
        for (int i = 0; i < 3; i++) {
            marks.add(new TreeMap<>());
        }
    }

    private static boolean within(int least, int number, int most) {
        return least <= number && number <= most;
    }

    private boolean noLine(int sheet, int line) {
        return !within(0, sheet, 1) || !within(0, line, 3);
    }

    private boolean noWork(int work) {
        return !within(0, work, works.size() - 1);
    }

    int line(int sheet, int line, int kind, int fact, int weight) {
        if (noLine(sheet, line) || !within(0, kind, 2) || !within(0, fact, 3) || !within(0, weight, 9)) {
            return BAD;
        }
        int[] row = sheets[sheet][line];
        row[0] = kind;
        row[1] = fact;
        row[2] = weight;
        return 1;
    }

    int span(int sheet, int line, int level, int from, int to) {
        if (noLine(sheet, line) || !within(0, level, 3) || !within(0, from, 9) || !within(0, to, 9)) {
            return BAD;
        }
        sheets[sheet][line][3 + 2 * level] = from;
        sheets[sheet][line][4 + 2 * level] = to;
        return 1;
    }

    int about(int sheet, int line, int what) {
        return noLine(sheet, line) || !within(0, what, 10) ? BAD : sheets[sheet][line][what];
    }

    private static List<Integer> facts(int[] row, int level) {
        List<Integer> facts = new ArrayList<>();
        for (int v = row[3 + 2 * level]; v <= row[4 + 2 * level]; v++) {
            facts.add(v);
        }
        return facts;
    }

    private static int levelBy(int kind, int[] row, int v) {
        int answer = NONE;
        if (kind == 0) {
            for (int k = 0; k < 4; k++) {
                answer = facts(row, k).contains(v) ? k : answer;
            }
            return answer;
        }
        int up = levelBy(kind - 1, row, v);
        if (kind == 1) {
            if (up != NONE) {
                return up;
            }
            answer = 0;
            for (int k = 0; k < 4; k++) {
                List<Integer> facts = facts(row, k);
                answer = !facts.isEmpty() && Collections.max(facts) < v ? k : answer;
            }
            return answer;
        }
        List<Integer> own = facts(row, up);
        boolean last = !own.isEmpty() && own.get(own.size() - 1) == v;
        return last && up < 3 ? up + 1 : up;
    }

    int level(int sheet, int line, int v) {
        if (noLine(sheet, line) || !within(0, v, 9)) {
            return BAD;
        }
        int[] row = sheets[sheet][line];
        long body = 1;
        for (int kind = 0; kind <= row[0]; kind++) {
            trace += body;
            body *= 10;
        }
        return levelBy(row[0], row, v);
    }

    private static int bits(int[] row, int least, int most) {
        int bits = 0;
        for (int v = 0; v <= 9; v++) {
            int n = 0;
            for (int k = 0; k < 4; k++) {
                n += Collections.frequency(facts(row, k), v);
            }
            bits += within(least, n, most) ? 1 << v : 0;
        }
        return bits;
    }

    int sense(int sheet, int line, int what) {
        if (noLine(sheet, line) || !within(0, what, 1)) {
            return BAD;
        }
        return what == 0 ? bits(sheets[sheet][line], 0, 0) : bits(sheets[sheet][line], 2, 4);
    }

    int sensible(int sheet, int line) {
        if (noLine(sheet, line)) {
            return BAD;
        }
        int[] row = sheets[sheet][line];
        boolean good = bits(row, 1, 1) == 1023;
        for (int less = 0; less <= 9; less++) {
            for (int more = less + 1; more <= 9; more++) {
                good = good && levelBy(row[0], row, more) >= levelBy(row[0], row, less);
            }
        }
        return good ? 1 : 0;
    }

    int work(int a, int b, int c, int d) {
        for (int v : new int[] {a, b, c, d}) {
            if (!within(0, v, 9)) {
                return BAD;
            }
        }
        if (works.size() == 12) {
            return FULL;
        }
        works.add(new int[] {a, b, c, d});
        return works.size() - 1;
    }

    int fact(int work, int i, int v) {
        if (noWork(work) || !within(0, i, 3) || !within(0, v, 9)) {
            return BAD;
        }
        int was = works.get(work)[i];
        works.get(work)[i] = v;
        return was;
    }

    int points(int sheet, int work) {
        if (!within(0, sheet, 1) || noWork(work)) {
            return BAD;
        }
        int sum = 0;
        for (int[] row : sheets[sheet]) {
            sum += row[2] * Math.max(0, levelBy(row[0], row, works.get(work)[row[1]]));
        }
        return sum;
    }

    private static int put(TreeMap<Integer, Integer> map, int work, int v) {
        Integer was = v == NONE ? map.remove(work) : map.put(work, v);
        return was == null ? NONE : was;
    }

    int mark(int marker, int work, int v) {
        boolean bad = !within(0, marker, 2) || noWork(work) || v != NONE && !within(0, v, 3);
        return bad ? BAD : put(marks.get(marker), work, v);
    }

    int given(int marker, int work) {
        return !within(0, marker, 2) || noWork(work) ? BAD : marks.get(marker).getOrDefault(work, NONE);
    }

    private static int ratio(int upper, int lower, int part) {
        for (int d = 2; d <= lower; d++) {
            while (upper % d == 0 && lower % d == 0) {
                upper /= d;
                lower /= d;
            }
        }
        return part == 0 ? upper : lower;
    }

    private List<Integer> both(int one, int other) {
        List<Integer> both = new ArrayList<>(marks.get(one).keySet());
        both.retainAll(marks.get(other).keySet());
        return both;
    }

    int like(int one, int other, int part) {
        if (!within(0, one, 2) || !within(0, other, 2) || one == other || !within(0, part, 2)) {
            return BAD;
        }
        List<Integer> both = both(one, other);
        int n = both.size();
        int alike = 0;
        int chance = 0;
        for (int i : both) {
            alike += marks.get(one).get(i).equals(marks.get(other).get(i)) ? 1 : 0;
            for (int j : both) {
                chance += marks.get(one).get(i).equals(marks.get(other).get(j)) ? 1 : 0;
            }
        }
        if (part == 2) {
            return n;
        }
        return n == 0 || n * n == chance ? STATE : ratio(alike * n - chance, n * n - chance, part);
    }

    int parts(int one, int other) {
        if (!within(0, one, 2) || !within(0, other, 2) || one == other) {
            return BAD;
        }
        for (int size = 3; size > 0; size--) {
            for (int i : both(one, other)) {
                if (Math.abs(marks.get(one).get(i) - marks.get(other).get(i)) == size) {
                    return i;
                }
            }
        }
        return NONE;
    }

    int anchor(int work, int v) {
        return noWork(work) || v != NONE && !within(0, v, 3) ? BAD : put(anchors, work, v);
    }

    private List<Integer> offs(int marker) {
        List<Integer> offs = new ArrayList<>();
        for (int work : anchors.keySet()) {
            if (marks.get(marker).containsKey(work)) {
                offs.add(marks.get(marker).get(work) - anchors.get(work));
            }
        }
        return offs;
    }

    private static int sum(List<Integer> numbers) {
        int sum = 0;
        for (int number : numbers) {
            sum += number;
        }
        return sum;
    }

    int off(int marker, int part) {
        if (!within(0, marker, 2) || !within(0, part, 2)) {
            return BAD;
        }
        List<Integer> offs = offs(marker);
        if (part == 2) {
            return offs.size();
        }
        return offs.isEmpty() ? STATE : ratio(sum(offs), offs.size(), part);
    }

    int fair(int marker, int work) {
        if (!within(0, marker, 2) || noWork(work)) {
            return BAD;
        }
        List<Integer> offs = offs(marker);
        if (!marks.get(marker).containsKey(work) || offs.isEmpty()) {
            return STATE;
        }
        // The whole number w is due where w - 1/2 <= mark less OFF < w + 1/2.
        int n = offs.size();
        int twice = 2 * (marks.get(marker).get(work) * n - sum(offs));
        int nearest = -10;
        while (twice >= (2 * nearest + 1) * n) {
            nearest++;
        }
        return Math.max(0, Math.min(3, nearest));
    }

    private static int driftOf(List<Integer> pile) {
        int rises = 0;
        int falls = 0;
        for (int i = 0; i < pile.size(); i++) {
            for (int j = i + 1; j < pile.size(); j++) {
                rises += pile.get(j) > pile.get(i) ? 1 : 0;
                falls += pile.get(j) < pile.get(i) ? 1 : 0;
            }
        }
        return rises - falls;
    }

    /** Puts each of the rest behind what is placed, in turn, and counts the whole orders. */
    private static int orders(List<Integer> placed, List<Integer> rest, int drift) {
        if (rest.isEmpty()) {
            return driftOf(placed) >= drift ? 1 : 0;
        }
        int n = 0;
        for (int i = 0; i < rest.size(); i++) {
            List<Integer> more = new ArrayList<>(placed);
            List<Integer> fewer = new ArrayList<>(rest);
            more.add(fewer.remove(i));
            n += orders(more, fewer, drift);
        }
        return n;
    }

    int drift(int marker, int what) {
        if (!within(0, marker, 2) || !within(0, what, 2)) {
            return BAD;
        }
        List<Integer> all = new ArrayList<>(marks.get(marker).values());
        List<Integer> pile = all.subList(0, Math.min(6, all.size()));
        if (what == 2) {
            return pile.size();
        }
        return what == 0 ? driftOf(pile) : orders(new ArrayList<>(), pile, driftOf(pile));
    }

    int moves(int what) {
        if (!within(0, what, 1)) {
            return BAD;
        }
        int moves = 0;
        int turned = 0;
        for (int i = 0; i < works.size(); i++) {
            moves += points(0, i) != points(1, i) ? 1 : 0;
            for (int j = 0; j < i; j++) {
                int was = Integer.signum(points(0, i) - points(0, j));
                int is = Integer.signum(points(1, i) - points(1, j));
                turned += was * is == -1 ? 1 : 0;
            }
        }
        return what == 0 ? moves : turned;
    }

    private static int[][] copyOf(int[][] sheet) {
        int[][] copy = new int[4][];
        for (int i = 0; i < 4; i++) {
            copy[i] = sheet[i].clone();
        }
        return copy;
    }

    int copy(int way) {
        if (!within(0, way, 2)) {
            return BAD;
        }
        int[][] first = copyOf(sheets[way == 0 ? 0 : 1]);
        int[][] second = copyOf(sheets[way == 1 ? 1 : 0]);
        sheets = new int[][][] {first, second};
        return 1;
    }

    int count(int what) {
        int sum = 0;
        switch (what) {
            case 0:
                return works.size();
            case 1:
                return anchors.size();
            case 2:
                return marks.get(0).size() + marks.get(1).size() + marks.get(2).size();
            case 3:
            case 4:
                for (int line = 0; line < 4; line++) {
                    sum += sensible(what - 3, line);
                }
                return sum;
            default:
                return BAD;
        }
    }

    long trace() {
        return trace;
    }
}
