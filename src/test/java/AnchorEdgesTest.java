/** The edges that the document names of ANCHORS, OFF, FAIR marks and DRIFT: each sentence has its test. */
public final class AnchorEdgesTest {
    private static final int STATE = MarkSheets.STATE, NONE = MarkSheets.NONE;
    private static final Check CHECK = new Check();

    public static void main(String[] args) {
        trueMarks();
        noAnchorAnyMore();
        offOfMarkedAnchors();
        offInLeastForm();
        noOffWithout();
        fairNearest();
        fairHalf();
        fairWithinMarks();
        fairWithoutMark();
        fairWithoutOff();
        driftOfFew();
        driftOfTheFirstSix();
        driftByNumbers();
        risesLessFalls();
        atLeastAsMuch();
        eachOrderCounted();
        driftIsNeverRefused();
        CHECK.end();
    }

    private static void trueMarks() {
        CHECK.sentence("ANCHORS are WORKS with a TRUE mark 0 .. 3");
        MarkSheets x = Made.works(12);
        for (int work = 0; work < 12; work++) {
            CHECK.due("anchors", x.count(1), work);
            CHECK.due("none at first", x.anchor(work, work % 4), NONE);
        }
        CHECK.due("anchors", x.count(1), 12);
        for (int work = 0; work < 12; work++) {
            CHECK.due("what was true of " + work, x.anchor(work, 3 - work % 4), work % 4);
        }
        CHECK.due("anchors", x.count(1), 12);
    }

    private static void noAnchorAnyMore() {
        CHECK.sentence("(NONE: it is none any more): what was TRUE (NONE)");
        MarkSheets x = Made.marked(3, 3);
        CHECK.due("it was none", x.anchor(1, NONE), NONE);
        for (int v = 0; v < 4; v++) {
            CHECK.due("becomes one of " + v, x.anchor(1, v), NONE);
            CHECK.due("is one", x.count(1), 1);
            CHECK.due("marked by 1", x.off(1, 2), 1);
            CHECK.due("is none any more", x.anchor(1, NONE), v);
            CHECK.due("is none", x.count(1), 0);
            CHECK.due("off of none", x.off(1, 2), 0);
        }
        CHECK.due("its mark stays", x.given(1, 1), 3);
    }

    private static void off(String text, MarkSheets x, int upper, int lower, int anchors) {
        CHECK.due(text + ": upper", x.off(1, 0), upper);
        CHECK.due(text + ": lower", x.off(1, 1), lower);
        CHECK.due(text + ": anchors", x.off(1, 2), anchors);
    }

    private static void offOfMarkedAnchors() {
        CHECK.sentence("over ANCHORS that it marked");
        MarkSheets x = Made.marked(3, 3, NONE, 0);
        Made.anchor(x, 1, NONE, 0, NONE);
        off("marks of no anchor, anchors of no mark", x, 2, 1, 1);
        x.mark(0, 2, 3);
        off("marks of another", x, 2, 1, 1);
        x.mark(1, 2, 0);
        off("a mark 0 of TRUE 0", x, 1, 1, 2);
        x.anchor(3, 3);
        off("a mark 0 of TRUE 3", x, -1, 3, 3);
        x.mark(1, 0, NONE);
        off("a mark taken back", x, -3, 2, 2);
    }

    private static void offInLeastForm() {
        CHECK.sentence("by how many they are (in least form)");
        int[] lower = {1, 12, 6, 4, 3, 12, 2, 12, 3, 4, 6, 12, 1};
        int[] upper = {0, 1, 1, 1, 1, 5, 1, 7, 2, 3, 5, 11, 1};
        for (int n = 0; n <= 12; n++) {
            MarkSheets above = Made.marked(Made.times(12, 1));
            Made.anchor(above, Made.times(12, 1));
            Made.anchor(above, Made.times(n, 0));
            off(n + " by 12", above, upper[n], lower[n], 12);
            MarkSheets below = Made.marked(Made.times(12, 1));
            Made.anchor(below, Made.times(12, 1));
            Made.anchor(below, Made.times(n, 2));
            off(-n + " by 12", below, -upper[n], lower[n], 12);
        }
        MarkSheets x = Made.marked(Made.times(12, 3));
        Made.anchor(x, Made.times(12, 0));
        off("36 by 12", x, 3, 1, 12);
        Made.give(x, 1, Made.times(12, 0));
        Made.anchor(x, Made.times(12, 3));
        off("-36 by 12", x, -3, 1, 12);
    }

    private static void noOffWithout() {
        CHECK.sentence("none without; STATE: there is none (0, 1)");
        off("no works", new MarkSheets(), STATE, STATE, 0);
        off("no marks, no anchors", Made.works(3), STATE, STATE, 0);
        off("no anchors", Made.marked(1, 2, 3), STATE, STATE, 0);
        MarkSheets x = Made.works(3);
        Made.anchor(x, 1, 2, 3);
        off("no marks", x, STATE, STATE, 0);
        Made.give(x, 0, 1, 1, 1);
        off("marks of another", x, STATE, STATE, 0);
        MarkSheets apart = Made.marked(1, NONE);
        apart.anchor(1, 2);
        off("none in common", apart, STATE, STATE, 0);
        apart.mark(1, 1, 2);
        off("off by nothing is not none", apart, 0, 1, 1);
    }

    private static void fairNearest() {
        CHECK.sentence("its mark less OFF, rounded to the nearest whole number");
        for (int n = 0; n <= 12; n++) {
            MarkSheets above = Made.marked(Made.times(12, 2));
            Made.anchor(above, Made.times(12, 2));
            Made.anchor(above, Made.times(n, 1));
            CHECK.due("2 less " + n + "/12", above.fair(1, 11), n <= 6 ? 2 : 1);
            MarkSheets below = Made.marked(Made.times(12, 1));
            Made.anchor(below, Made.times(12, 1));
            Made.anchor(below, Made.times(n, 2));
            CHECK.due("1 and " + n + "/12", below.fair(1, 0), n < 6 ? 1 : 2);
        }
        MarkSheets x = Made.marked(1, 1, 1, 0, 2, 3);
        Made.anchor(x, 0, 0, 1);
        int[] want = {0, 0, 0, 0, 1, 2};
        for (int work = 0; work < 6; work++) {
            CHECK.due("less 2/3, an anchor or not: work " + work, x.fair(1, work), want[work]);
        }
    }

    /** Works 0 .. 3 have the marks 0 .. 3; works 4 and 5 make what the marker is off by. */
    private static MarkSheets offByHalves(int mark, int oneTrue, int otherTrue) {
        MarkSheets x = Made.marked(0, 1, 2, 3, mark, mark);
        x.anchor(4, oneTrue);
        x.anchor(5, otherTrue);
        return x;
    }

    private static void fairs(String text, MarkSheets x, int... want) {
        for (int mark = 0; mark < 4; mark++) {
            CHECK.due(text + ": mark " + mark, x.fair(1, mark), want[mark]);
        }
    }

    private static void fairHalf() {
        CHECK.sentence("(a half: to the greater one)");
        fairs("off by 1/2", offByHalves(1, 0, 1), 0, 1, 2, 3);
        fairs("off by -1/2", offByHalves(1, 2, 1), 1, 2, 3, 3);
        fairs("off by 3/2", offByHalves(3, 1, 2), 0, 0, 1, 2);
        fairs("off by -3/2", offByHalves(0, 1, 2), 2, 3, 3, 3);
        fairs("off by 5/2", offByHalves(3, 0, 1), 0, 0, 0, 1);
        fairs("off by -5/2", offByHalves(0, 3, 2), 3, 3, 3, 3);
    }

    private static void fairWithinMarks() {
        CHECK.sentence("0 .. 3 then");
        fairs("off by 3", offByHalves(3, 0, 0), 0, 0, 0, 0);
        fairs("off by -3", offByHalves(0, 3, 3), 3, 3, 3, 3);
        fairs("off by 2", offByHalves(2, 0, 0), 0, 0, 0, 1);
        fairs("off by -2", offByHalves(1, 3, 3), 2, 3, 3, 3);
        fairs("off by 1", offByHalves(2, 1, 1), 0, 0, 1, 2);
        fairs("off by -1", offByHalves(2, 3, 3), 1, 2, 3, 3);
        fairs("off by 0", offByHalves(2, 3, 1), 0, 1, 2, 3);
    }

    private static void fairWithoutMark() {
        CHECK.sentence("STATE: no mark");
        MarkSheets x = Made.marked(1, NONE, NONE);
        x.anchor(0, 1);
        x.anchor(2, 1);
        CHECK.due("a work without a mark", x.fair(1, 1), STATE);
        CHECK.due("an anchor without a mark", x.fair(1, 2), STATE);
        CHECK.due("a work with a mark", x.fair(1, 0), 1);
        x.mark(1, 1, 0);
        CHECK.due("a mark 0 is one", x.fair(1, 1), 0);
        x.mark(1, 1, NONE);
        CHECK.due("taken back", x.fair(1, 1), STATE);
    }

    private static void fairWithoutOff() {
        CHECK.sentence("STATE: or no OFF");
        MarkSheets x = Made.marked(2, 3, NONE);
        CHECK.due("no anchors", x.fair(1, 0), STATE);
        x.anchor(2, 0);
        CHECK.due("no marked anchor", x.fair(1, 0), STATE);
        CHECK.due("no mark either", x.fair(0, 0), STATE);
        x.anchor(1, 3);
        CHECK.due("off by nothing is not none", x.fair(1, 0), 2);
        CHECK.due("another marker has none", x.fair(2, 0), STATE);
        x.mark(2, 0, 1);
        CHECK.due("another marker with a mark has none", x.fair(2, 0), STATE);
        x.anchor(1, NONE);
        CHECK.due("the anchor is none any more", x.fair(1, 0), STATE);
    }

    private static void drift(String text, MarkSheets x, int drift, int odds, int works) {
        CHECK.due(text + ": drift", x.drift(1, 0), drift);
        CHECK.due(text + ": odds", x.drift(1, 1), odds);
        CHECK.due(text + ": works", x.drift(1, 2), works);
    }

    private static void driftOfFew() {
        CHECK.sentence("of its marked WORKS (fewer than six)");
        drift("no works", new MarkSheets(), 0, 1, 0);
        drift("no marks", Made.works(12), 0, 1, 0);
        drift("one", Made.marked(NONE, 3, NONE), 0, 1, 1);
        drift("two", Made.marked(0, NONE, 3), 1, 1, 2);
        drift("three", Made.marked(0, 1, 2), 3, 1, 3);
        drift("four", Made.marked(0, 1, 2, 3), 6, 1, 4);
        drift("five", Made.marked(0, 0, 1, 2, 3), 9, 2, 5);
    }

    private static void driftOfTheFirstSix() {
        CHECK.sentence("the first six");
        drift("six", Made.marked(0, 0, 1, 2, 3, 3), 13, 4, 6);
        drift("a seventh, which is less", Made.marked(0, 0, 1, 2, 3, 3, 0), 13, 4, 6);
        drift("six alike before a greater one", Made.marked(2, 2, 2, 2, 2, 2, 3), 0, 720, 6);
        drift("twelve", Made.marked(1, 1, 1, 1, 1, 2, 0, 0, 0, 0, 0, 0), 5, 120, 6);
        drift("unmarked ones between", Made.marked(NONE, 0, 0, NONE, 1, 2, NONE, 3, 3, 0, NONE, 0), 13, 4, 6);
        MarkSheets x = Made.marked(3, 0, 0, 1, 2, 3, 3);
        x.mark(1, 0, NONE);
        drift("the seventh becomes the sixth", x, 13, 4, 6);
    }

    private static void driftByNumbers() {
        CHECK.sentence("by numbers");
        MarkSheets x = Made.works(12);
        for (int work = 11; work >= 0; work--) {
            x.mark(1, work, work < 6 ? work / 2 : 0);
        }
        // 0 0 1 1 2 2: fifteen pairs, three of them alike; 2! 2! 2! orders are as good.
        drift("given from the last to the first", x, 12, 8, 6);
        x.mark(0, 0, 3);
        CHECK.due("another marker: drift", x.drift(0, 0), 0);
        CHECK.due("another marker: works", x.drift(0, 2), 1);
    }

    private static void risesLessFalls() {
        CHECK.sentence("RISES, pairs of which the later one has the greater mark, less FALLS");
        drift("a rise", Made.marked(0, 3), 1, 1, 2);
        drift("a fall", Made.marked(3, 0), -1, 2, 2);
        drift("neither", Made.marked(2, 2), 0, 2, 2);
        drift("a rise and a fall", Made.marked(0, 3, 0), 0, 4, 3);
        drift("pairs that do not stand side by side", Made.marked(1, 3, 0, 2), 0, 15, 4);
        drift("falls alone", Made.marked(3, 3, 2, 1, 0, 0), -13, 720, 6);
    }

    private static void atLeastAsMuch() {
        CHECK.sentence("how many have RISES less FALLS at least as much");
        // Orders of three unlike marks: 3; 1, 1; -1, -1; -3.
        drift("3", Made.marked(0, 1, 3), 3, 1, 3);
        drift("1", Made.marked(0, 3, 1), 1, 3, 3);
        drift("1", Made.marked(1, 0, 3), 1, 3, 3);
        drift("-1", Made.marked(1, 3, 0), -1, 5, 3);
        drift("-1", Made.marked(3, 0, 1), -1, 5, 3);
        drift("-3", Made.marked(3, 1, 0), -3, 6, 3);
    }

    private static void eachOrderCounted() {
        CHECK.sentence("(each of n! counted)");
        int[] factorial = {1, 1, 2, 6, 24, 120, 720};
        for (int n = 0; n <= 6; n++) {
            drift(n + " alike", Made.marked(Made.times(n, 3)), 0, factorial[n], n);
        }
        drift("0 0 1", Made.marked(0, 0, 1), 2, 2, 3);
        drift("0 1 0", Made.marked(0, 1, 0), 0, 4, 3);
        drift("1 0 0", Made.marked(1, 0, 0), -2, 6, 3);
        drift("0 0 0 1 1 1", Made.marked(0, 0, 0, 1, 1, 1), 9, 36, 6);
    }

    private static void driftIsNeverRefused() {
        CHECK.sentence("DRIFT (0), ODDS (1), of how many WORKS (2). BAD (and no STATE)");
        for (int marker = 0; marker < 3; marker++) {
            CHECK.due("drift(" + marker + ", 0)", new MarkSheets().drift(marker, 0), 0);
            CHECK.due("drift(" + marker + ", 1)", new MarkSheets().drift(marker, 1), 1);
            CHECK.due("drift(" + marker + ", 2)", new MarkSheets().drift(marker, 2), 0);
        }
    }
}
