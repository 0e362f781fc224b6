import java.util.Random;

/** Promises 1 to 22 together: runs of 512 calls with any arguments, held against Model. */
public final class ModelTest {
    private static final int RUNS = 1500, CALLS = 512, LINE_CALLS = 5;
    private static final int[] STRANGE = {Integer.MIN_VALUE, -900, -899, -1, 10, 12, 13, 1 << 30, Integer.MAX_VALUE};
    private static final Check CHECK = new Check();

    private final Random random;
    private final MarkSheets x = new MarkSheets();
    private final Model model = new Model();
    private final boolean hasStrange;
    private int calls = 0;

    private ModelTest(int seed) {
        random = new Random(seed);
        hasStrange = seed % 3 == 0;
    }

    public static void main(String[] args) {
        for (int run = 0; run < RUNS; run++) {
            ModelTest test = new ModelTest(run);
            while (test.calls < CALLS) {
                test.step("run " + run + ", call " + test.calls + ": ");
            }
            CHECK.due("run " + run + ": its calls", test.calls, CALLS);
        }
        CHECK.end();
    }

    /** Mostly 0 .. top, at times one beyond either end, or a number that is nothing at all. */
    private int pick(int top) {
        int dice = random.nextInt(60);
        if (hasStrange && dice == 0) {
            return STRANGE[random.nextInt(STRANGE.length)];
        }
        return dice == 1 ? top + 1 : dice == 2 ? -1 : random.nextInt(top + 1);
    }

    private int pickWork() {
        return pick(Math.max(0, model.count(0) - 1));
    }

    private int pickMark() {
        return random.nextInt(5) == 0 ? MarkSheets.NONE : pick(3);
    }

    private static String told(String name, int... numbers) {
        StringBuilder text = new StringBuilder(name).append('(');
        for (int i = 0; i < numbers.length; i++) {
            text.append(i == 0 ? "" : ", ").append(numbers[i]);
        }
        return text.append(')').toString();
    }

    /** What an object answers is promised for so many calls alone, so each one is counted. */
    private void due(String call, long got, long want) {
        calls++;
        CHECK.due(call, got, want);
    }

    private void step(String at) {
        int call = random.nextInt(40);
        if (call < 14) {
            change(at, call);
        } else {
            ask(at, call);
        }
    }

    private void change(String at, int call) {
        if (call < 2) {
            int a = pick(1), b = pick(3), c = pick(2), d = pick(3), e = pick(9);
            due(at + told("line", a, b, c, d, e), x.line(a, b, c, d, e), model.line(a, b, c, d, e));
        } else if (call < 5) {
            int a = pick(1), b = pick(3), c = pick(3), d = pick(9), e = pick(9);
            due(at + told("span", a, b, c, d, e), x.span(a, b, c, d, e), model.span(a, b, c, d, e));
        } else if (call < 6) {
            int a = pick(9), b = pick(9), c = pick(9), d = pick(9);
            due(at + told("work", a, b, c, d), x.work(a, b, c, d), model.work(a, b, c, d));
        } else if (call < 7) {
            int a = pickWork(), b = pick(3), c = pick(9);
            due(at + told("fact", a, b, c), x.fact(a, b, c), model.fact(a, b, c));
        } else if (call < 11) {
            int a = pick(2), b = pickWork(), c = pickMark();
            due(at + told("mark", a, b, c), x.mark(a, b, c), model.mark(a, b, c));
        } else if (call < 13) {
            int a = pickWork(), b = pickMark();
            due(at + told("anchor", a, b), x.anchor(a, b), model.anchor(a, b));
        } else if (random.nextInt(4) == 0 || calls + LINE_CALLS > CALLS) {
            int a = pick(2);
            due(at + told("copy", a), x.copy(a), model.copy(a));
        } else {
            sensibleLine(at);
        }
    }

    /** Lines that make sense are too rare to be met by chance. */
    private void sensibleLine(String at) {
        int sheet = random.nextInt(2), line = random.nextInt(4), next = 0;
        int turn = random.nextInt(8);
        for (int i = 0; i < 4; i++) {
            int level = turn == 0 ? 3 - i : i;
            int to = i == 3 ? 9 : Math.min(9, next + random.nextInt(5) - 1);
            int from = next > 9 ? 9 : next;
            to = next > 9 ? 0 : Math.max(0, to);
            due(at + "span", x.span(sheet, line, level, from, to), model.span(sheet, line, level, from, to));
            next = Math.max(next, to + 1);
        }
        due(at + told("sensible", sheet, line), x.sensible(sheet, line), model.sensible(sheet, line));
    }

    private void ask(String at, int call) {
        int a = pick(1), b = pick(3), c = pick(2), d = pick(2), work = pickWork(), v = pick(9);
        if (call < 15) {
            int what = pick(10);
            due(at + told("about", a, b, what), x.about(a, b, what), model.about(a, b, what));
        } else if (call < 19) {
            due(at + told("level", a, b, v), x.level(a, b, v), model.level(a, b, v));
        } else if (call < 21) {
            int what = pick(1);
            due(at + told("sense", a, b, what), x.sense(a, b, what), model.sense(a, b, what));
        } else if (call < 22) {
            due(at + told("sensible", a, b), x.sensible(a, b), model.sensible(a, b));
        } else if (call < 24) {
            due(at + told("points", a, work), x.points(a, work), model.points(a, work));
        } else if (call < 25) {
            due(at + told("given", c, work), x.given(c, work), model.given(c, work));
        } else if (call < 27) {
            int part = pick(2);
            due(at + told("like", c, d, part), x.like(c, d, part), model.like(c, d, part));
        } else if (call < 29) {
            due(at + told("parts", c, d), x.parts(c, d), model.parts(c, d));
        } else if (call < 31) {
            due(at + told("off", c, d), x.off(c, d), model.off(c, d));
        } else if (call < 34) {
            due(at + told("fair", c, work), x.fair(c, work), model.fair(c, work));
        } else if (call < 36) {
            due(at + told("drift", c, d), x.drift(c, d), model.drift(c, d));
        } else if (call < 38) {
            due(at + told("moves", a), x.moves(a), model.moves(a));
        } else if (call < 39) {
            int what = pick(4);
            due(at + told("count", what), x.count(what), model.count(what));
        } else {
            due(at + "trace()", x.trace(), model.trace());
        }
    }
}
