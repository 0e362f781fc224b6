/** Promises 8 to 14: work, fact, points, mark, given, like, parts. */
public final class WorksTest {
    private static final int BAD = MarkSheets.BAD, STATE = MarkSheets.STATE, FULL = MarkSheets.FULL;
    private static final int NONE = MarkSheets.NONE;
    private static final int[] OUTSIDE = {Integer.MIN_VALUE, -900, -1, 12, 13, Integer.MAX_VALUE};
    private static final Check CHECK = new Check();

    public static void main(String[] args) {
        work();
        fact();
        points();
        mark();
        like();
        likeOverBothMarked();
        noLikeness();
        parts();
        CHECK.end();
    }

    private static void work() {
        MarkSheets x = Made.works(3);
        for (int far : new int[] {Integer.MIN_VALUE, NONE, -1, 10, Integer.MAX_VALUE}) {
            CHECK.due("work a " + far, x.work(far, 0, 0, 0), BAD);
            CHECK.due("work b " + far, x.work(0, far, 0, 0), BAD);
            CHECK.due("work c " + far, x.work(0, 0, far, 0), BAD);
            CHECK.due("work d " + far, x.work(0, 0, 0, far), BAD);
        }
        CHECK.due("refused works are none", x.count(0), 3);
        CHECK.due("work(9, 8, 7, 6)", x.work(9, 8, 7, 6), 3);
        for (int i = 0; i < 4; i++) {
            CHECK.due("its fact " + i, x.fact(3, i, 0), 9 - i);
        }
        for (int i = 4; i < 12; i++) {
            CHECK.due("work " + i, x.work(1, 1, 1, 1), i);
        }
        CHECK.due("work 12", x.work(1, 1, 1, 1), FULL);
        CHECK.due("BAD goes before FULL", x.work(1, 1, 1, 10), BAD);
        CHECK.due("count(0)", x.count(0), 12);
    }

    private static void fact() {
        MarkSheets x = Made.works(2);
        CHECK.due("fact(1, 3, 9)", x.fact(1, 3, 9), 0);
        CHECK.due("fact(1, 3, 4)", x.fact(1, 3, 4), 9);
        CHECK.due("fact(0, 3, 0)", x.fact(0, 3, 0), 0);
        for (int far : OUTSIDE) {
            CHECK.due("fact of work " + far, x.fact(far, 0, 0), BAD);
            CHECK.due("fact " + far, x.fact(1, far, 0), BAD);
            CHECK.due("fact becomes " + far, x.fact(1, 3, far), BAD);
        }
        CHECK.due("fact(2, 0, 0)", x.fact(2, 0, 0), BAD);
        CHECK.due("fact(1, 4, 0)", x.fact(1, 4, 0), BAD);
        CHECK.due("fact(1, 3, 10)", x.fact(1, 3, 10), BAD);
        CHECK.due("a refused fact changes nothing", x.fact(1, 3, 4), 4);
    }

    private static void points() {
        MarkSheets x = new MarkSheets();
        CHECK.due("points without works", x.points(0, 0), BAD);
        x.work(0, 3, 6, 9);
        CHECK.due("points at first", x.points(0, 0), 0 + 1 + 2 + 3);
        x.line(0, 0, 0, 3, 5);
        CHECK.due("line 0 of fact 3", x.points(0, 0), 15 + 1 + 2 + 3);
        x.span(0, 1, 1, 9, 0);
        CHECK.due("NONE counts 0", x.points(0, 0), 15 + 0 + 2 + 3);
        x.line(0, 2, 2, 2, 2);
        CHECK.due("by its kind", x.points(0, 0), 15 + 0 + 6 + 3);
        CHECK.due("by the other sheet", x.points(1, 0), 6);
        x.line(0, 3, 0, 3, 0);
        CHECK.due("weight 0", x.points(0, 0), 15 + 0 + 6 + 0);
        CHECK.due("points(2, 0)", x.points(2, 0), BAD);
        CHECK.due("points(-1, 0)", x.points(-1, 0), BAD);
        CHECK.due("points(0, 1)", x.points(0, 1), BAD);
        CHECK.due("points(0, -1)", x.points(0, -1), BAD);
        CHECK.due("points does not come to the trace", x.trace(), 0);
    }

    private static void mark() {
        MarkSheets x = Made.works(2);
        CHECK.due("given at first", x.given(2, 1), NONE);
        CHECK.due("mark(2, 1, 3)", x.mark(2, 1, 3), NONE);
        CHECK.due("given(2, 1)", x.given(2, 1), 3);
        CHECK.due("given(1, 1)", x.given(1, 1), NONE);
        CHECK.due("given(2, 0)", x.given(2, 0), NONE);
        CHECK.due("mark(2, 1, 0)", x.mark(2, 1, 0), 3);
        CHECK.due("mark(2, 1, NONE)", x.mark(2, 1, NONE), 0);
        CHECK.due("given(2, 1)", x.given(2, 1), NONE);
        for (int far : new int[] {Integer.MIN_VALUE, -899, -1, 4, Integer.MAX_VALUE}) {
            CHECK.due("mark " + far, x.mark(0, 0, far), BAD);
            CHECK.due("marker " + far, x.mark(far, 0, 0), BAD);
            CHECK.due("mark of work " + far, x.mark(0, far, 0), BAD);
            CHECK.due("given by " + far, x.given(far, 0), BAD);
            CHECK.due("given to " + far, x.given(0, far), BAD);
        }
        CHECK.due("mark(3, 0, 0)", x.mark(3, 0, 0), BAD);
        CHECK.due("mark(0, 2, 0)", x.mark(0, 2, 0), BAD);
        CHECK.due("given(3, 0)", x.given(3, 0), BAD);
        CHECK.due("given(0, 2)", x.given(0, 2), BAD);
        CHECK.due("a refused mark changes nothing", x.given(0, 0), NONE);
    }

    private static void ratio(String text, MarkSheets x, int one, int other, int upper, int lower, int both) {
        CHECK.due(text + ": upper", x.like(one, other, 0), upper);
        CHECK.due(text + ": lower", x.like(one, other, 1), lower);
        CHECK.due(text + ": both", x.like(one, other, 2), both);
    }

    private static void like() {
        MarkSheets x = Made.works(4);
        Made.give(x, 0, 0, 1, 2, 3);
        Made.give(x, 1, 0, 1, 2, 3);
        Made.give(x, 2, 3, 2, 1, 0);
        ratio("all alike", x, 0, 1, 1, 1, 4);
        ratio("less alike than by chance", x, 0, 2, -1, 3, 4);
        ratio("either way round", x, 2, 0, -1, 3, 4);
        Made.give(x, 2, 0, 0, 2, 2);
        ratio("in least form", x, 1, 2, 1, 3, 4);
        for (int far : new int[] {Integer.MIN_VALUE, -1, 3, Integer.MAX_VALUE}) {
            CHECK.due("like of " + far, x.like(far, 0, 0), BAD);
            CHECK.due("like to " + far, x.like(0, far, 0), BAD);
            CHECK.due("like part " + far, x.like(0, 1, far), BAD);
        }
        for (int part = 0; part < 3; part++) {
            CHECK.due("like(1, 1, " + part + ")", x.like(1, 1, part), BAD);
        }
    }

    private static void likeOverBothMarked() {
        MarkSheets x = Made.works(6);
        Made.give(x, 0, 0, 1, 1, NONE, NONE, 0);
        Made.give(x, 1, 0, 1, 0, 3, 0, NONE);
        // Over works 0 .. 2: A = 2, n = 3, E = 1 * 2 + 2 * 1.
        ratio("marks of one alone do not count", x, 0, 1, 2, 5, 3);
    }

    private static void noLikeness() {
        MarkSheets x = Made.works(2);
        CHECK.due("none marked", x.like(0, 1, 0), STATE);
        CHECK.due("none marked", x.like(0, 1, 1), STATE);
        CHECK.due("none marked", x.like(0, 1, 2), 0);
        CHECK.due("BAD goes before STATE", x.like(0, 0, 0), BAD);
        Made.give(x, 0, 2, 2);
        Made.give(x, 1, 2, 2);
        CHECK.due("a lower part of 0", x.like(0, 1, 0), STATE);
        CHECK.due("a lower part of 0", x.like(0, 1, 1), STATE);
        CHECK.due("a lower part of 0", x.like(0, 1, 2), 2);
        Made.give(x, 1, 1, 1);
        ratio("never alike", x, 0, 1, 0, 1, 2);
    }

    private static void parts() {
        MarkSheets x = Made.works(5);
        CHECK.due("none marked", x.parts(0, 1), NONE);
        Made.give(x, 0, 1, 1, 3, 0, 0);
        Made.give(x, 1, 1, 1, 3, 0, NONE);
        CHECK.due("all alike", x.parts(0, 1), NONE);
        x.mark(1, 0, 2);
        CHECK.due("by one, work 0", x.parts(0, 1), 0);
        Made.give(x, 1, 1, 2, 1, 2, NONE);
        CHECK.due("of several the least number", x.parts(0, 1), 2);
        CHECK.due("either way round", x.parts(1, 0), 2);
        x.mark(1, 3, 3);
        CHECK.due("the greatest size", x.parts(0, 1), 3);
        x.mark(2, 4, 3);
        CHECK.due("works that both marked", x.parts(1, 2), NONE);
        CHECK.due("works that both marked", x.parts(0, 2), 4);
        for (int far : new int[] {Integer.MIN_VALUE, -1, 3, Integer.MAX_VALUE}) {
            CHECK.due("parts of " + far, x.parts(far, 0), BAD);
            CHECK.due("parts to " + far, x.parts(0, far), BAD);
        }
        CHECK.due("parts are of two markers", x.parts(1, 1), BAD);
    }
}
