import java.util.Random;

/** An object's 512 calls, the last of them too, objects that stand side by side, and calls that never throw. */
public final class CallsTest {
    private static final int BAD = MarkSheets.BAD, FULL = MarkSheets.FULL, NONE = MarkSheets.NONE;
    private static final int CALLS = 512;
    private static final Check CHECK = new Check();

    public static void main(String[] args) {
        lastCallOfLevels();
        lastCallOfChanges();
        lastCallOfRefusals();
        lastCallOfDrift();
        objectsAreTheirOwn();
        sameCallsSameAnswers();
        neverThrows();
        CHECK.end();
    }

    private static void lastCallOfLevels() {
        CHECK.sentence("used for at most 512 calls (levels, with the greatest TRACE)");
        MarkSheets x = new MarkSheets();
        x.line(0, 0, 2, 0, 1);
        int[] want = {1, 1, 1, 2, 2, 2, 3, 3, 3, 3};
        for (int call = 1; call < CALLS - 1; call++) {
            CHECK.due("call " + call, x.level(0, 0, call % 10), want[call % 10]);
        }
        CHECK.due("the last call, trace()", x.trace(), 111L * (CALLS - 2));
    }

    private static void lastCallOfChanges() {
        CHECK.sentence("used for at most 512 calls (changes)");
        MarkSheets x = new MarkSheets();
        CHECK.due("work", x.work(0, 0, 0, 0), 0);
        int before = NONE;
        for (int call = 1; call + 5 < CALLS; call += 5) {
            int v = call % 4;
            CHECK.due("span", x.span(1, 3, v, v, 9 - v), 1);
            CHECK.due("mark", x.mark(2, 0, v), before);
            CHECK.due("anchor", x.anchor(0, v), before);
            CHECK.due("copy", x.copy(2), 1);
            CHECK.due("copy", x.copy(2), 1);
            before = v;
        }
        CHECK.due("the last call, given(2, 0)", x.given(2, 0), before);
    }

    private static void lastCallOfRefusals() {
        CHECK.sentence("used for at most 512 calls (refusals)");
        MarkSheets x = Made.works(12);
        for (int call = 12; call < CALLS - 2; call += 2) {
            CHECK.due("work", x.work(0, 0, 0, 0), FULL);
            CHECK.due("fact", x.fact(12, 0, 0), BAD);
        }
        CHECK.due("fact", x.fact(11, 3, 9), 0);
        CHECK.due("the last call, count(0)", x.count(0), 12);
    }

    private static void lastCallOfDrift() {
        CHECK.sentence("used for at most 512 calls (the same question)");
        MarkSheets x = Made.marked(0, 1, 2, 3, 0, 1);
        for (int call = 12; call < CALLS; call++) {
            CHECK.due("call " + call, x.drift(1, 1), 256);
        }
    }

    private static void objectsAreTheirOwn() {
        CHECK.sentence("A new object: as told; no WORKS (whatever another one holds)");
        MarkSheets one = new MarkSheets();
        MarkSheets other = new MarkSheets();
        one.line(0, 0, 2, 3, 9);
        one.span(0, 0, 1, 5, 4);
        one.level(0, 0, 0);
        one.work(9, 9, 9, 9);
        one.mark(0, 0, 3);
        one.anchor(0, 3);
        for (MarkSheets x : new MarkSheets[] {other, new MarkSheets()}) {
            int[] want = {0, 0, 1, 0, 0, 1, 3, 4, 6, 7, 9};
            for (int what = 0; what <= 10; what++) {
                CHECK.due("about(0, 0, " + what + ")", x.about(0, 0, what), want[what]);
            }
            CHECK.due("trace()", x.trace(), 0);
            CHECK.due("count(0)", x.count(0), 0);
            CHECK.due("count(1)", x.count(1), 0);
            CHECK.due("count(2)", x.count(2), 0);
            CHECK.due("work", x.work(1, 1, 1, 1), 0);
            CHECK.due("given(0, 0)", x.given(0, 0), NONE);
            CHECK.due("drift(0, 2)", x.drift(0, 2), 0);
        }
        CHECK.due("the first one's mark", one.given(0, 0), 3);
        CHECK.due("the first one's fact", one.fact(0, 0, 0), 9);
    }

    private static long answerOf(MarkSheets x, int call, Random random) {
        int a = pick(random), b = pick(random), c = pick(random), d = pick(random), e = pick(random);
        switch (call) {
            case 0: return x.line(a, b, c, d, e);
            case 1: return x.span(a, b, c, d, e);
            case 2: return x.about(a, b, c);
            case 3: return x.level(a, b, c);
            case 4: return x.sense(a, b, c);
            case 5: return x.sensible(a, b);
            case 6: return x.work(a, b, c, d);
            case 7: return x.fact(a, b, c);
            case 8: return x.points(a, b);
            case 9: return x.mark(a, b, c);
            case 10: return x.given(a, b);
            case 11: return x.like(a, b, c);
            case 12: return x.parts(a, b);
            case 13: return x.anchor(a, b);
            case 14: return x.off(a, b);
            case 15: return x.fair(a, b);
            case 16: return x.drift(a, b);
            case 17: return x.moves(a);
            case 18: return x.copy(a);
            case 19: return x.count(a);
            default: return x.trace();
        }
    }

    /** Mostly small numbers, so that most calls are taken. */
    private static int pick(Random random) {
        int dice = random.nextInt(40);
        return dice == 0 ? random.nextInt() : dice == 1 ? NONE : dice < 30 ? random.nextInt(3) : random.nextInt(13) - 1;
    }

    private static void sameCallsSameAnswers() {
        CHECK.sentence("the same calls always give the same answers (rule 13)");
        MarkSheets one = new MarkSheets();
        MarkSheets other = new MarkSheets();
        Random ofOne = new Random(7);
        Random ofOther = new Random(7);
        for (int call = 0; call < CALLS; call++) {
            CHECK.due("call " + call, answerOf(one, call % 21, ofOne), answerOf(other, call % 21, ofOther));
        }
    }

    /** What they answer is free beyond the 512th call, so the answers are not looked at. */
    private static void neverThrows() {
        CHECK.sentence("No call may ever throw or fail to end, for any arguments in any state (rule 7)");
        Random random = new Random(12);
        for (int run = 0; run < 40; run++) {
            MarkSheets x = new MarkSheets();
            for (int call = 0; call < 10 * CALLS; call++) {
                answerOf(x, random.nextInt(21), random);
            }
            CHECK.due("run " + run + " ended", 1, 1);
        }
    }
}
