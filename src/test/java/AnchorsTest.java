/** Promises 15 to 18: anchor, off, fair, drift. */
public final class AnchorsTest {
    private static final int BAD = MarkSheets.BAD, STATE = MarkSheets.STATE, NONE = MarkSheets.NONE;
    private static final int[] OUTSIDE = {Integer.MIN_VALUE, -1, 4, 12, Integer.MAX_VALUE};
    private static final Check CHECK = new Check();

    public static void main(String[] args) {
        anchor();
        off();
        fairRounds();
        fairStaysWithinMarks();
        fairRefuses();
        drift();
        driftOfTheFirstSix();
        CHECK.end();
    }

    private static void anchor() {
        MarkSheets x = Made.marked(0, 0);
        CHECK.due("anchor(1, 3)", x.anchor(1, 3), NONE);
        CHECK.due("anchor(1, 0)", x.anchor(1, 0), 3);
        CHECK.due("TRUE 0 is an anchor", x.count(1), 1);
        CHECK.due("anchor(1, NONE)", x.anchor(1, NONE), 0);
        CHECK.due("anchor(1, NONE)", x.anchor(1, NONE), NONE);
        CHECK.due("count(1)", x.count(1), 0);
        CHECK.due("anchor(0, 2)", x.anchor(0, 2), NONE);
        CHECK.due("count(1)", x.count(1), 1);
        CHECK.due("anchor(0, NONE)", x.anchor(0, NONE), 2);
        CHECK.due("anchor(2, 0)", x.anchor(2, 0), BAD);
        for (int far : OUTSIDE) {
            CHECK.due("anchor of work " + far, x.anchor(far, 0), BAD);
            CHECK.due("anchor of mark " + far, x.anchor(0, far), BAD);
        }
        CHECK.due("a refused anchor changes nothing", x.count(1), 0);
    }

    private static void ratio(String text, MarkSheets x, int upper, int lower, int anchors) {
        CHECK.due(text + ": upper", x.off(1, 0), upper);
        CHECK.due(text + ": lower", x.off(1, 1), lower);
        CHECK.due(text + ": anchors", x.off(1, 2), anchors);
    }

    private static void off() {
        MarkSheets x = Made.marked(3, 3, 0, 1, NONE);
        ratio("no anchors", x, STATE, STATE, 0);
        x.anchor(4, 3);
        ratio("an anchor without a mark", x, STATE, STATE, 0);
        x.anchor(0, 1);
        ratio("one anchor", x, 2, 1, 1);
        x.anchor(1, 3);
        ratio("in least form", x, 1, 1, 2);
        x.anchor(2, 3);
        ratio("below 0", x, -1, 3, 3);
        x.anchor(3, 0);
        ratio("no difference", x, 0, 1, 4);
        CHECK.due("a marker without marks", x.off(0, 0), STATE);
        for (int far : new int[] {Integer.MIN_VALUE, -1, 3, Integer.MAX_VALUE}) {
            CHECK.due("off of " + far, x.off(far, 0), BAD);
            CHECK.due("off part " + far, x.off(1, far), BAD);
        }
    }

    private static void fairRounds() {
        MarkSheets x = Made.marked(1, 1, 1, 2);
        x.anchor(0, 0);
        x.anchor(1, 1);
        CHECK.due("2 less 1/2, a half to the greater one", x.fair(1, 3), 2);
        CHECK.due("1 less 1/2, a half to the greater one", x.fair(1, 0), 1);
        x.anchor(2, 0);
        CHECK.due("2 less 2/3", x.fair(1, 3), 1);
        x.anchor(0, 1);
        CHECK.due("2 less 1/3", x.fair(1, 3), 2);
        x.anchor(0, 2);
        x.anchor(2, NONE);
        CHECK.due("2 and 1/2, a half to the greater one", x.fair(1, 3), 3);
        x.anchor(2, 1);
        CHECK.due("2 and 1/3", x.fair(1, 3), 2);
    }

    private static void fairStaysWithinMarks() {
        MarkSheets x = Made.marked(3, 0, 1);
        x.anchor(0, 0);
        CHECK.due("0 less 3", x.fair(1, 1), 0);
        CHECK.due("3 less 3", x.fair(1, 0), 0);
        x.anchor(0, NONE);
        x.anchor(1, 3);
        CHECK.due("3 and 3", x.fair(1, 0), 3);
        CHECK.due("0 and 3", x.fair(1, 1), 3);
        MarkSheets half = Made.marked(1, 1, 0);
        half.anchor(0, 0);
        half.anchor(1, 1);
        CHECK.due("0 less 1/2", half.fair(1, 2), 0);
    }

    private static void fairRefuses() {
        MarkSheets x = Made.marked(1, NONE);
        CHECK.due("no OFF", x.fair(1, 0), STATE);
        x.anchor(0, 1);
        CHECK.due("no mark", x.fair(1, 1), STATE);
        CHECK.due("no OFF of another marker", x.fair(0, 0), STATE);
        CHECK.due("fair(1, 0)", x.fair(1, 0), 1);
        CHECK.due("fair(1, 2)", x.fair(1, 2), BAD);
        CHECK.due("fair(3, 0)", x.fair(3, 0), BAD);
        for (int far : OUTSIDE) {
            CHECK.due("fair by " + far, x.fair(far, 0), BAD);
            CHECK.due("fair of work " + far, x.fair(1, far), BAD);
        }
        x.mark(0, 1, 2);
        CHECK.due("a mark, but no OFF", x.fair(0, 1), STATE);
    }

    private static void drifts(String text, MarkSheets x, int drift, int odds, int works) {
        CHECK.due(text + ": drift", x.drift(1, 0), drift);
        CHECK.due(text + ": odds", x.drift(1, 1), odds);
        CHECK.due(text + ": works", x.drift(1, 2), works);
    }

    private static void drift() {
        drifts("no works", new MarkSheets(), 0, 1, 0);
        drifts("one work", Made.marked(2), 0, 1, 1);
        drifts("a rise", Made.marked(1, 3), 1, 1, 2);
        drifts("a fall", Made.marked(3, 1), -1, 2, 2);
        drifts("two alike, each order counted", Made.marked(1, 1), 0, 2, 2);
        drifts("a rise among alike ones", Made.marked(0, 0, 1), 2, 2, 3);
        drifts("all rises", Made.marked(0, 1, 2, 3), 6, 1, 4);
        drifts("all falls", Made.marked(3, 2, 1, 0), -6, 24, 4);
        drifts("one pair turned", Made.marked(0, 2, 1, 3), 4, 4, 4);
        drifts("six alike", Made.marked(2, 2, 2, 2, 2, 2), 0, 720, 6);
        drifts("works without a mark are left out", Made.marked(NONE, 0, NONE, 2, NONE, 1), 1, 3, 3);
        MarkSheets x = Made.marked(0, 1);
        for (int far : new int[] {Integer.MIN_VALUE, -1, 3, Integer.MAX_VALUE}) {
            CHECK.due("drift of " + far, x.drift(far, 0), BAD);
            CHECK.due("drift what " + far, x.drift(1, far), BAD);
        }
    }

    private static void driftOfTheFirstSix() {
        MarkSheets x = Made.marked(0, 0, 0, 1, 1, 1, 0, 0, 3);
        drifts("the first six", x, 9, 36, 6);
        x.mark(1, 0, NONE);
        drifts("the seventh comes up", x, 3, 252, 6);
        drifts("asked again", x, 3, 252, 6);
    }
}
