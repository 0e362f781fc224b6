import java.util.ArrayList;
import java.util.List;

/**
 * For each call: every number that it takes at its ends and outside them, things that there are
 * not, which refusal comes first, and that after a refused call nothing has changed.
 */
public final class RefusalsTest {
    private static final int BAD = MarkSheets.BAD, STATE = MarkSheets.STATE, FULL = MarkSheets.FULL;
    private static final int NONE = MarkSheets.NONE;
    private static final Check CHECK = new Check();

    /** What a number of a call is: it goes from 0 to most, and a mark may be NONE as well. */
    private enum Number {
        SHEET(1), LINE(3), KIND(2), FACT(3), WEIGHT(9), LEVEL(3), FACT_VALUE(9), ABOUT(10), HALF(1), WORK(-1),
        MARKER(2), MARK(3), PART(2), COUNT(4);

        private final int most;

        Number(int most) {
            this.most = most;
        }

        int most(int works) {
            return this == WORK ? works - 1 : most;
        }
    }

    private interface Asked {
        int of(MarkSheets x, int[] n);
    }

    /** A call of the face: its numbers, and good ones, which change what made() has made. */
    private record Call(String name, Asked asked, Number[] numbers, int[] good) {
        /** These must be unlike each other as well. */
        boolean isOfTwoMarkers() {
            return numbers.length > 1 && numbers[0] == Number.MARKER && numbers[1] == Number.MARKER;
        }

        int with(MarkSheets x, int place, int number) {
            int[] n = good.clone();
            n[place] = number;
            return asked.of(x, n);
        }

        String told(int place, int number) {
            int[] n = good.clone();
            n[place] = number;
            return told(n);
        }

        String told(int[] n) {
            return name + java.util.Arrays.toString(n);
        }
    }

    private static final Call[] CALLS = {
        new Call("line", (x, n) -> x.line(n[0], n[1], n[2], n[3], n[4]),
            of(Number.SHEET, Number.LINE, Number.KIND, Number.FACT, Number.WEIGHT), good(0, 1, 2, 3, 9)),
        new Call("span", (x, n) -> x.span(n[0], n[1], n[2], n[3], n[4]),
            of(Number.SHEET, Number.LINE, Number.LEVEL, Number.FACT_VALUE, Number.FACT_VALUE), good(1, 2, 1, 5, 6)),
        new Call("about", (x, n) -> x.about(n[0], n[1], n[2]),
            of(Number.SHEET, Number.LINE, Number.ABOUT), good(1, 2, 1)),
        new Call("level", (x, n) -> x.level(n[0], n[1], n[2]),
            of(Number.SHEET, Number.LINE, Number.FACT_VALUE), good(0, 2, 4)),
        new Call("sense", (x, n) -> x.sense(n[0], n[1], n[2]),
            of(Number.SHEET, Number.LINE, Number.HALF), good(0, 2, 1)),
        new Call("sensible", (x, n) -> x.sensible(n[0], n[1]), of(Number.SHEET, Number.LINE), good(1, 1)),
        new Call("work", (x, n) -> x.work(n[0], n[1], n[2], n[3]),
            of(Number.FACT_VALUE, Number.FACT_VALUE, Number.FACT_VALUE, Number.FACT_VALUE), good(1, 2, 3, 4)),
        new Call("fact", (x, n) -> x.fact(n[0], n[1], n[2]),
            of(Number.WORK, Number.FACT, Number.FACT_VALUE), good(1, 2, 0)),
        new Call("points", (x, n) -> x.points(n[0], n[1]), of(Number.SHEET, Number.WORK), good(1, 1)),
        new Call("mark", (x, n) -> x.mark(n[0], n[1], n[2]),
            of(Number.MARKER, Number.WORK, Number.MARK), good(1, 1, 0)),
        new Call("given", (x, n) -> x.given(n[0], n[1]), of(Number.MARKER, Number.WORK), good(1, 1)),
        new Call("like", (x, n) -> x.like(n[0], n[1], n[2]),
            of(Number.MARKER, Number.MARKER, Number.PART), good(0, 1, 2)),
        new Call("parts", (x, n) -> x.parts(n[0], n[1]), of(Number.MARKER, Number.MARKER), good(0, 1)),
        new Call("anchor", (x, n) -> x.anchor(n[0], n[1]), of(Number.WORK, Number.MARK), good(1, 0)),
        new Call("off", (x, n) -> x.off(n[0], n[1]), of(Number.MARKER, Number.PART), good(1, 2)),
        new Call("fair", (x, n) -> x.fair(n[0], n[1]), of(Number.MARKER, Number.WORK), good(1, 1)),
        new Call("drift", (x, n) -> x.drift(n[0], n[1]), of(Number.MARKER, Number.PART), good(1, 1)),
        new Call("moves", (x, n) -> x.moves(n[0]), of(Number.HALF), good(1)),
        new Call("copy", (x, n) -> x.copy(n[0]), of(Number.PART), good(2)),
        new Call("count", (x, n) -> x.count(n[0]), of(Number.COUNT), good(2)),
    };

    private static Number[] of(Number... numbers) {
        return numbers;
    }

    private static int[] good(int... numbers) {
        return numbers;
    }

    public static void main(String[] args) {
        for (Call call : CALLS) {
            takesItsEnds(call);
            refusesWhatIsOutside(call);
            refusesTwoWrongNumbers(call);
        }
        noLineOfAnotherSheet();
        noSuchWork();
        noneIsForMarksAlone();
        badBeforeFull();
        badBeforeStateOfLike();
        badBeforeStateOfOff();
        badBeforeStateOfFair();
        nothingChangesByFull();
        nothingChangesByState();
        CHECK.end();
    }

    /** Lines, works, marks, anchors and a trace that are all unlike those of a new object. */
    private static MarkSheets made(int works) {
        MarkSheets x = new MarkSheets();
        for (int i = 0; i < 8; i++) {
            x.line(i / 4, i % 4, i % 3, (i + 1) % 4, 2 + i % 7);
            x.span(i / 4, i % 4, i % 4, i, 8);
        }
        for (int i = 0; i < works; i++) {
            x.work(5 + i % 4, 9 - i % 5, 3 + i % 7, 1 + i % 9);
            x.mark(0, i, i % 3);
            x.mark(1, i, 1 + i % 3);
            x.anchor(i, 1 + i % 3);
        }
        x.level(0, 0, 0);
        x.level(0, 1, 0);
        x.level(0, 2, 0);
        return x;
    }

    /** All that can be learned of an object; asking for facts and anchors uses it up. */
    private static List<Long> state(MarkSheets x) {
        List<Long> state = new ArrayList<>();
        state.add(x.trace());
        for (int i = 0; i < 8; i++) {
            for (int what = 0; what <= 10; what++) {
                state.add((long) x.about(i / 4, i % 4, what));
            }
        }
        for (int what = 0; what < 5; what++) {
            state.add((long) x.count(what));
        }
        int works = x.count(0);
        for (int work = 0; work < works; work++) {
            for (int marker = 0; marker < 3; marker++) {
                state.add((long) x.given(marker, work));
            }
            for (int i = 0; i < 4; i++) {
                state.add((long) x.fact(work, i, 0));
            }
            state.add((long) x.anchor(work, NONE));
        }
        state.add((long) x.work(0, 0, 0, 0));
        return state;
    }

    private static void unchanged(String text, MarkSheets x, int works) {
        List<Long> got = state(x);
        List<Long> want = state(made(works));
        CHECK.due(text + ": what is known of it", got.size(), want.size());
        for (int i = 0; i < Math.min(got.size(), want.size()); i++) {
            CHECK.due(text + ": what changed, in place " + i, got.get(i), want.get(i));
        }
    }

    /** One below, one above, the answers that refuse, ends of int, and what narrower numbers would take for good. */
    private static List<Integer> outside(Number number, int works, int good) {
        int most = number.most(works);
        int[] tried = {-1, most + 1, most + 2, -2, BAD, STATE, FULL, NONE, NONE - 1, NONE + 1, -NONE, 100,
            good + 256, good - 256, good + 65536, good - 65536, good + (1 << 30), good + (1 << 31), ~good - 7,
            Integer.MIN_VALUE, Integer.MIN_VALUE + 1, Integer.MAX_VALUE, Integer.MAX_VALUE - 1};
        List<Integer> outside = new ArrayList<>();
        for (int n : tried) {
            boolean isMark = number == Number.MARK && n == NONE;
            if ((n < 0 || n > most) && !isMark) {
                outside.add(n);
            }
        }
        return outside;
    }

    private static void takesItsEnds(Call call) {
        CHECK.sentence(call.name() + ": its least and its greatest numbers are taken");
        for (int place = 0; place < call.numbers().length; place++) {
            for (int end : new int[] {0, call.numbers()[place].most(5)}) {
                if (call.isOfTwoMarkers() && place < 2 && end == call.good()[1 - place]) {
                    continue;
                }
                int got = call.with(made(5), place, end);
                CHECK.due(call.told(place, end) + " answered " + got + ", refused", got == BAD ? 1 : 0, 0);
            }
        }
    }

    private static void refusesWhatIsOutside(Call call) {
        CHECK.sentence(call.name() + ": BAD (a number is not as told), and nothing changes");
        for (int works : new int[] {5, 12}) {
            for (int place = 0; place < call.numbers().length; place++) {
                MarkSheets x = made(works);
                for (int wrong : outside(call.numbers()[place], works, call.good()[place])) {
                    CHECK.due(call.told(place, wrong), call.with(x, place, wrong), BAD);
                }
                unchanged(call.name() + ", number " + place + " wrong", x, works);
            }
        }
        for (int works : new int[] {0, 2}) {
            for (int place = 0; place < call.numbers().length; place++) {
                MarkSheets bare = Made.works(works);
                for (int wrong : outside(call.numbers()[place], works, call.good()[place])) {
                    CHECK.due(call.told(place, wrong) + " of " + works, call.with(bare, place, wrong), BAD);
                }
            }
        }
    }

    private static void refusesTwoWrongNumbers(Call call) {
        int n = call.numbers().length;
        if (n < 2) {
            return;
        }
        CHECK.sentence(call.name() + ": BAD, where several numbers are not as told");
        for (int one = 0; one < n; one++) {
            for (int other = one + 1; other < n; other++) {
                MarkSheets x = made(5);
                for (int side = 0; side < 9; side++) {
                    int[] numbers = call.good().clone();
                    numbers[one] = new int[] {-1, call.numbers()[one].most(5) + 1, 1 << 30}[side % 3];
                    numbers[other] = new int[] {-1, call.numbers()[other].most(5) + 1, 1 << 30}[side / 3];
                    CHECK.due(call.told(numbers), call.asked().of(x, numbers), BAD);
                }
                unchanged(call.name() + ", two wrong", x, 5);
            }
        }
    }

    private static void noLineOfAnotherSheet() {
        CHECK.sentence("there is no such thing (a LINE beyond its SHEET is not one of the other SHEET)");
        int[][] none = {{0, 4}, {0, 5}, {0, 7}, {1, -1}, {1, -4}, {2, -1}, {2, -4}, {-1, 4}, {-1, 7}, {1 << 30, 0}};
        for (int[] at : none) {
            MarkSheets x = made(5);
            String told = at[0] + ", " + at[1];
            CHECK.due("line(" + told + ", ..)", x.line(at[0], at[1], 2, 0, 9), BAD);
            CHECK.due("span(" + told + ", ..)", x.span(at[0], at[1], 3, 1, 1), BAD);
            CHECK.due("about(" + told + ", 2)", x.about(at[0], at[1], 2), BAD);
            CHECK.due("level(" + told + ", 5)", x.level(at[0], at[1], 5), BAD);
            CHECK.due("sense(" + told + ", 0)", x.sense(at[0], at[1], 0), BAD);
            CHECK.due("sensible(" + told + ")", x.sensible(at[0], at[1]), BAD);
            unchanged("a line that there is not", x, 5);
        }
    }

    private static void noSuchWork() {
        CHECK.sentence("there is no such thing (a WORK that has not come yet)");
        for (int works = 0; works <= 12; works++) {
            MarkSheets x = Made.works(works);
            for (int i = 0; i < works; i++) {
                x.mark(1, i, 2);
                x.anchor(i, 2);
            }
            for (Call call : CALLS) {
                for (int place = 0; place < call.good().length; place++) {
                    if (call.numbers()[place] == Number.WORK) {
                        CHECK.due(call.told(place, works) + " of " + works, call.with(x, place, works), BAD);
                        CHECK.due(call.told(place, 12) + " of " + works, call.with(x, place, 12), BAD);
                        int last = works == 0 ? 0 : call.with(x, place, works - 1);
                        CHECK.due(call.told(place, works - 1) + " is refused", last < 0 ? 1 : 0, 0);
                    }
                }
            }
            CHECK.due("works", x.count(0), works);
        }
    }

    private static void noneIsForMarksAlone() {
        CHECK.sentence("becomes v (NONE: none): no other number below 0 is");
        for (int v : new int[] {NONE - 1, NONE + 1, BAD, STATE, FULL, -1, 4, 900}) {
            MarkSheets x = made(5);
            CHECK.due("mark(1, 1, " + v + ")", x.mark(1, 1, v), BAD);
            CHECK.due("anchor(1, " + v + ")", x.anchor(1, v), BAD);
            unchanged("a mark of " + v, x, 5);
        }
        MarkSheets x = made(5);
        CHECK.due("mark(NONE, 1, 0)", x.mark(NONE, 1, 0), BAD);
        CHECK.due("mark(1, NONE, 0)", x.mark(1, NONE, 0), BAD);
        CHECK.due("fact(1, 1, NONE)", x.fact(1, 1, NONE), BAD);
        CHECK.due("work(NONE, 0, 0, 0)", x.work(NONE, 0, 0, 0), BAD);
        CHECK.due("span(0, 0, 0, NONE, 0)", x.span(0, 0, 0, NONE, 0), BAD);
        CHECK.due("level(0, 0, NONE)", x.level(0, 0, NONE), BAD);
        unchanged("NONE that is no mark", x, 5);
    }

    private static void badBeforeFull() {
        CHECK.sentence("the first of these: BAD .. FULL (work)");
        MarkSheets x = made(12);
        for (int wrong : new int[] {-1, 10, NONE, Integer.MIN_VALUE, Integer.MAX_VALUE}) {
            CHECK.due("work(" + wrong + ", 0, 0, 0)", x.work(wrong, 0, 0, 0), BAD);
            CHECK.due("work(0, " + wrong + ", 0, 0)", x.work(0, wrong, 0, 0), BAD);
            CHECK.due("work(0, 0, " + wrong + ", 0)", x.work(0, 0, wrong, 0), BAD);
            CHECK.due("work(0, 0, 0, " + wrong + ")", x.work(0, 0, 0, wrong), BAD);
        }
        CHECK.due("work(0, 0, 0, 0)", x.work(0, 0, 0, 0), FULL);
        CHECK.due("work(9, 9, 9, 9)", x.work(9, 9, 9, 9), FULL);
    }

    private static void badBeforeStateOfLike() {
        CHECK.sentence("the first of these: BAD .. STATE (like)");
        MarkSheets x = Made.works(3);
        CHECK.due("like(0, 1, 0)", x.like(0, 1, 0), STATE);
        CHECK.due("like(0, 1, 1)", x.like(0, 1, 1), STATE);
        CHECK.due("like(0, 1, 2)", x.like(0, 1, 2), 0);
        CHECK.due("like(0, 1, 3)", x.like(0, 1, 3), BAD);
        CHECK.due("like(0, 1, -1)", x.like(0, 1, -1), BAD);
        CHECK.due("like(0, 3, 0)", x.like(0, 3, 0), BAD);
        CHECK.due("like(-1, 1, 0)", x.like(-1, 1, 0), BAD);
        CHECK.due("like(3, 3, 1)", x.like(3, 3, 1), BAD);
        for (int marker = 0; marker < 3; marker++) {
            CHECK.due("like(" + marker + ", " + marker + ", 0)", x.like(marker, marker, 0), BAD);
            CHECK.due("like(" + marker + ", " + marker + ", 1)", x.like(marker, marker, 1), BAD);
            CHECK.due("like(" + marker + ", " + marker + ", 2)", x.like(marker, marker, 2), BAD);
        }
    }

    private static void badBeforeStateOfOff() {
        CHECK.sentence("the first of these: BAD .. STATE (off)");
        MarkSheets x = Made.works(3);
        CHECK.due("off(0, 0)", x.off(0, 0), STATE);
        CHECK.due("off(2, 1)", x.off(2, 1), STATE);
        CHECK.due("off(2, 2)", x.off(2, 2), 0);
        CHECK.due("off(0, 3)", x.off(0, 3), BAD);
        CHECK.due("off(0, -1)", x.off(0, -1), BAD);
        CHECK.due("off(3, 0)", x.off(3, 0), BAD);
        CHECK.due("off(-1, 1)", x.off(-1, 1), BAD);
    }

    private static void badBeforeStateOfFair() {
        CHECK.sentence("the first of these: BAD .. STATE (fair)");
        MarkSheets x = Made.works(3);
        CHECK.due("fair(0, 0)", x.fair(0, 0), STATE);
        CHECK.due("fair(2, 2)", x.fair(2, 2), STATE);
        CHECK.due("fair(0, 3)", x.fair(0, 3), BAD);
        CHECK.due("fair(0, -1)", x.fair(0, -1), BAD);
        CHECK.due("fair(3, 0)", x.fair(3, 0), BAD);
        CHECK.due("fair(-1, 0)", x.fair(-1, 0), BAD);
        x.mark(0, 0, 1);
        CHECK.due("a mark, no OFF: fair(0, 0)", x.fair(0, 0), STATE);
        CHECK.due("a mark, no OFF: fair(0, 3)", x.fair(0, 3), BAD);
        x.anchor(0, 1);
        CHECK.due("an OFF, no mark: fair(0, 1)", x.fair(0, 1), STATE);
        CHECK.due("an OFF, no mark: fair(3, 1)", x.fair(3, 1), BAD);
    }

    private static void nothingChangesByFull() {
        CHECK.sentence("Refused, and nothing changes: FULL");
        MarkSheets x = made(12);
        for (int i = 0; i < 20; i++) {
            CHECK.due("work", x.work(i % 10, 9, 0, 9), FULL);
        }
        unchanged("after FULL", x, 12);
    }

    private static void nothingChangesByState() {
        CHECK.sentence("Refused, and nothing changes: STATE");
        MarkSheets x = made(5);
        for (int i = 0; i < 3; i++) {
            CHECK.due("like(0, 2, " + i % 2 + ")", x.like(0, 2, i % 2), STATE);
            CHECK.due("off(2, " + i % 2 + ")", x.off(2, i % 2), STATE);
            CHECK.due("fair(2, " + i + ")", x.fair(2, i), STATE);
        }
        unchanged("after STATE", x, 5);
    }
}
