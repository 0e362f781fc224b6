/** Promises 1 to 7: a new object, line, span, about, level, sense, sensible. */
public final class SheetsTest {
    private static final int BAD = MarkSheets.BAD, NONE = MarkSheets.NONE;
    private static final int STRICT = 0, FILLED = 1, KIND = 2;
    private static final int[] OUTSIDE = {Integer.MIN_VALUE, -900, -1, 10, 11, Integer.MAX_VALUE};
    private static final Check CHECK = new Check();

    public static void main(String[] args) {
        newObject();
        line();
        span();
        about();
        strictLevel();
        filledLevel();
        kindLevel();
        emptySpansHaveNoLast();
        sense();
        sensible();
        CHECK.end();
    }

    private static void levels(String text, MarkSheets x, int... want) {
        for (int v = 0; v <= 9; v++) {
            CHECK.due(text + ": level for " + v, x.level(0, 0, v), want[v]);
        }
    }

    private static void newObject() {
        MarkSheets x = new MarkSheets();
        int[] spans = {0, 0, 1, 3, 4, 6, 7, 9};
        for (int sheet = 0; sheet < 2; sheet++) {
            for (int line = 0; line < 4; line++) {
                String at = "new: about(" + sheet + ", " + line + ", ..)";
                CHECK.due(at, x.about(sheet, line, 0), STRICT);
                CHECK.due(at, x.about(sheet, line, 1), line);
                CHECK.due(at, x.about(sheet, line, 2), 1);
                for (int i = 0; i < 8; i++) {
                    CHECK.due(at, x.about(sheet, line, 3 + i), spans[i]);
                }
            }
        }
        CHECK.due("new: count(0)", x.count(0), 0);
        CHECK.due("new: count(1)", x.count(1), 0);
        CHECK.due("new: count(2)", x.count(2), 0);
        CHECK.due("new: trace()", x.trace(), 0);
        CHECK.due("new: given(0, 0)", x.given(0, 0), BAD);
    }

    private static void line() {
        MarkSheets x = new MarkSheets();
        CHECK.due("line(1, 3, 2, 0, 9)", x.line(1, 3, 2, 0, 9), 1);
        CHECK.due("about(1, 3, 0)", x.about(1, 3, 0), KIND);
        CHECK.due("about(1, 3, 1)", x.about(1, 3, 1), 0);
        CHECK.due("about(1, 3, 2)", x.about(1, 3, 2), 9);
        CHECK.due("line keeps the spans", x.about(1, 3, 10), 9);
        CHECK.due("the other sheet stays", x.about(0, 3, 2), 1);
        CHECK.due("line(1, 3, 0, 3, 0)", x.line(1, 3, 0, 3, 0), 1);
        CHECK.due("weight 0", x.about(1, 3, 2), 0);
        int[][] wrong = {{2, 0, 0, 0, 0}, {-1, 0, 0, 0, 0}, {0, 4, 0, 0, 0}, {0, -1, 0, 0, 0}, {0, 0, 3, 0, 0},
            {0, 0, -1, 0, 0}, {0, 0, 0, 4, 0}, {0, 0, 0, -1, 0}, {0, 0, 0, 0, 10}, {0, 0, 0, 0, -1}};
        for (int[] w : wrong) {
            CHECK.due("wrong line", x.line(w[0], w[1], w[2], w[3], w[4]), BAD);
        }
        for (int far : OUTSIDE) {
            CHECK.due("line of sheet " + far, x.line(far, 0, 1, 1, 2), BAD);
            CHECK.due("line of line " + far, x.line(0, far, 1, 1, 2), BAD);
            CHECK.due("line of kind " + far, x.line(0, 0, far, 1, 2), BAD);
            CHECK.due("line of fact " + far, x.line(0, 0, 1, far, 2), BAD);
            CHECK.due("line of weight " + far, x.line(0, 0, 1, 1, far), BAD);
        }
        CHECK.due("a refused line changes nothing", x.about(0, 0, 0), STRICT);
        CHECK.due("a refused line changes nothing", x.about(0, 0, 1), 0);
        CHECK.due("a refused line changes nothing", x.about(0, 0, 2), 1);
    }

    private static void span() {
        MarkSheets x = new MarkSheets();
        CHECK.due("span(1, 2, 3, 9, 0)", x.span(1, 2, 3, 9, 0), 1);
        CHECK.due("about(1, 2, 9)", x.about(1, 2, 9), 9);
        CHECK.due("about(1, 2, 10)", x.about(1, 2, 10), 0);
        CHECK.due("the other sheet stays", x.about(0, 2, 9), 7);
        for (int far : OUTSIDE) {
            CHECK.due("span of sheet " + far, x.span(far, 0, 0, 1, 2), BAD);
            CHECK.due("span of line " + far, x.span(0, far, 0, 1, 2), BAD);
            CHECK.due("span of level " + far, x.span(0, 0, far, 1, 2), BAD);
            CHECK.due("span from " + far, x.span(0, 0, 0, far, 2), BAD);
            CHECK.due("span to " + far, x.span(0, 0, 0, 1, far), BAD);
        }
        CHECK.due("span of sheet 2", x.span(2, 0, 0, 1, 2), BAD);
        CHECK.due("span of line 4", x.span(0, 4, 0, 1, 2), BAD);
        CHECK.due("span of level 4", x.span(0, 0, 4, 1, 2), BAD);
        CHECK.due("a refused span changes nothing", x.about(0, 0, 3), 0);
        CHECK.due("a refused span changes nothing", x.about(0, 0, 4), 0);
    }

    private static void about() {
        MarkSheets x = Made.line(FILLED, 1, 2, 3, 4, 5, 6, 7, 8);
        for (int i = 0; i < 8; i++) {
            CHECK.due("about(0, 0, " + (3 + i) + ")", x.about(0, 0, 3 + i), 1 + i);
        }
        CHECK.due("about(0, 0, 11)", x.about(0, 0, 11), BAD);
        CHECK.due("about(0, 0, -1)", x.about(0, 0, -1), BAD);
        CHECK.due("about(2, 0, 0)", x.about(2, 0, 0), BAD);
        CHECK.due("about(-1, 3, 0)", x.about(-1, 3, 0), BAD);
        CHECK.due("about(0, 4, 0)", x.about(0, 4, 0), BAD);
        CHECK.due("about(1, -1, 0)", x.about(1, -1, 0), BAD);
        CHECK.due("about(0, 0, MAX)", x.about(0, 0, Integer.MAX_VALUE), BAD);
        CHECK.due("about(0, 0, MIN)", x.about(0, 0, Integer.MIN_VALUE), BAD);
    }

    private static void strictLevel() {
        levels("strict at first", new MarkSheets(), 0, 1, 1, 1, 2, 2, 2, 3, 3, 3);
        levels("strict, the greatest level", Made.line(STRICT, 0, 9, 0, 4, 3, 3, 5, 4),
            1, 1, 1, 2, 1, 0, 0, 0, 0, 0);
        levels("strict, gaps", Made.line(STRICT, 1, 1, 3, 4, 9, 0, 8, 8),
            NONE, 0, NONE, 1, 1, NONE, NONE, NONE, 3, NONE);
        MarkSheets x = new MarkSheets();
        for (int far : OUTSIDE) {
            CHECK.due("level for " + far, x.level(0, 0, far), BAD);
            CHECK.due("level of sheet " + far, x.level(far, 0, 0), BAD);
            CHECK.due("level of line " + far, x.level(0, far, 0), BAD);
        }
        CHECK.due("level(2, 0, 0)", x.level(2, 0, 0), BAD);
        CHECK.due("level(0, 4, 0)", x.level(0, 4, 0), BAD);
        CHECK.due("a refused level does not come to the trace", x.trace(), 0);
    }

    private static void filledLevel() {
        levels("filled, no gap", Made.line(FILLED, 0, 0, 1, 3, 4, 6, 7, 9), 0, 1, 1, 1, 2, 2, 2, 3, 3, 3);
        levels("filled, gaps", Made.line(FILLED, 1, 1, 3, 4, 9, 0, 8, 8), 0, 0, 0, 1, 1, 1, 1, 1, 3, 3);
        levels("filled, the greatest level below, not the nearest", Made.line(FILLED, 5, 5, 9, 8, 9, 8, 1, 2),
            0, 3, 3, 3, 3, 0, 3, 3, 3, 3);
        levels("filled, an empty span is not below", Made.line(FILLED, 9, 8, 9, 8, 3, 2, 1, 0),
            0, 0, 0, 0, 0, 0, 0, 0, 0, 0);
    }

    private static void kindLevel() {
        levels("kind at first", Made.line(KIND, 0, 0, 1, 3, 4, 6, 7, 9), 1, 1, 1, 2, 2, 2, 3, 3, 3, 3);
        levels("kind, filled gaps get no more", Made.line(KIND, 1, 1, 3, 4, 9, 0, 8, 8),
            0, 1, 0, 1, 2, 1, 1, 1, 3, 3);
        levels("kind, the last of the greatest level's span", Made.line(KIND, 0, 5, 3, 6, 9, 8, 9, 8),
            0, 0, 0, 1, 1, 1, 2, 1, 1, 1);
    }

    private static void emptySpansHaveNoLast() {
        levels("kind, level 0 empty", Made.line(KIND, 5, 4, 9, 8, 9, 8, 9, 8), 0, 0, 0, 0, 0, 0, 0, 0, 0, 0);
    }

    private static void sense() {
        MarkSheets x = Made.line(STRICT, 0, 2, 2, 3, 9, 4, 3, 8);
        CHECK.due("gaps", x.sense(0, 0, 0), 1 << 9);
        CHECK.due("overlaps", x.sense(0, 0, 1), 1 << 2 | 1 << 3);
        MarkSheets all = Made.line(KIND, 0, 9, 0, 9, 0, 9, 0, 0);
        CHECK.due("three spans overlap", all.sense(0, 0, 1), 1023);
        CHECK.due("no gaps", all.sense(0, 0, 0), 0);
        MarkSheets none = Made.line(FILLED, 9, 0, 9, 8, 1, 0, 5, 4);
        CHECK.due("all gaps, whatever the kind fills", none.sense(0, 0, 0), 1023);
        CHECK.due("no overlaps", none.sense(0, 0, 1), 0);
        CHECK.due("sense(0, 0, 2)", x.sense(0, 0, 2), BAD);
        CHECK.due("sense(0, 0, -1)", x.sense(0, 0, -1), BAD);
        CHECK.due("sense(2, 0, 0)", x.sense(2, 0, 0), BAD);
        CHECK.due("sense(-1, 0, 0)", x.sense(-1, 0, 0), BAD);
        CHECK.due("sense(0, 4, 0)", x.sense(0, 4, 0), BAD);
        CHECK.due("sense(0, -1, 1)", x.sense(0, -1, 1), BAD);
        CHECK.due("sense does not come to the trace", x.trace(), 0);
    }

    private static void sensible() {
        CHECK.due("sensible at first", new MarkSheets().sensible(1, 3), 1);
        CHECK.due("a gap", Made.line(FILLED, 0, 0, 1, 3, 4, 6, 7, 8).sensible(0, 0), 0);
        CHECK.due("an overlap", Made.line(STRICT, 0, 1, 1, 3, 4, 6, 7, 9).sensible(0, 0), 0);
        CHECK.due("empty levels", Made.line(STRICT, 9, 0, 0, 5, 9, 0, 6, 9).sensible(0, 0), 1);
        CHECK.due("a better fact gets less", Made.line(STRICT, 7, 9, 1, 3, 4, 6, 0, 0).sensible(0, 0), 0);
        CHECK.due("strict, 9 gets less", Made.line(STRICT, 9, 0, 9, 0, 9, 9, 0, 8).sensible(0, 0), 0);
        CHECK.due("filled, 9 gets less", Made.line(FILLED, 9, 0, 9, 0, 9, 9, 0, 8).sensible(0, 0), 0);
        CHECK.due("kind lifts 9 to the same", Made.line(KIND, 9, 0, 9, 0, 9, 9, 0, 8).sensible(0, 0), 1);
        CHECK.due("kind, two levels", Made.line(KIND, 0, 3, 4, 9, 9, 0, 9, 0).sensible(0, 0), 1);
        CHECK.due("kind, levels fall by one", Made.line(KIND, 4, 9, 0, 3, 9, 0, 9, 0).sensible(0, 0), 0);
        CHECK.due("one level for all", Made.line(KIND, 9, 0, 9, 0, 0, 9, 9, 0).sensible(0, 0), 1);
        MarkSheets x = new MarkSheets();
        CHECK.due("sensible(2, 0)", x.sensible(2, 0), BAD);
        CHECK.due("sensible(-1, 0)", x.sensible(-1, 0), BAD);
        CHECK.due("sensible(0, 4)", x.sensible(0, 4), BAD);
        CHECK.due("sensible(0, -1)", x.sensible(0, -1), BAD);
        x.sensible(0, 0);
        CHECK.due("sensible does not come to the trace", x.trace(), 0);
    }
}
