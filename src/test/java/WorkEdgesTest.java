/** The edges that the document names of WORKS, POINTS, MARKS, LIKENESS and PARTS: each sentence has its test. */
public final class WorkEdgesTest {
    private static final int BAD = MarkSheets.BAD, STATE = MarkSheets.STATE, FULL = MarkSheets.FULL;
    private static final int NONE = MarkSheets.NONE;
    private static final Check CHECK = new Check();

    public static void main(String[] args) {
        noWorksAtFirst();
        factsZeroToNine();
        twelveAtMost();
        factTellsWhatItWas();
        noneCountsZero();
        pointsOfAllLines();
        noMarkAtFirst();
        noneTakesAMarkBack();
        likenessOverBothMarked();
        likenessInLeastForm();
        likenessBelowZero();
        noLikenessIfLowerIsZero();
        noLikenessIfThereAreNone();
        likenessOfUnlikeMarkers();
        partsMost();
        partsLeastNumber();
        partsNoneMarkedBoth();
        partsAllAlike();
        CHECK.end();
    }

    private static void noWorksAtFirst() {
        CHECK.sentence("As told; no WORKS");
        MarkSheets x = new MarkSheets();
        CHECK.due("count(0)", x.count(0), 0);
        CHECK.due("points(0, 0)", x.points(0, 0), BAD);
        CHECK.due("fact(0, 0, 0)", x.fact(0, 0, 0), BAD);
        CHECK.due("mark(0, 0, 0)", x.mark(0, 0, 0), BAD);
        CHECK.due("given(0, 0)", x.given(0, 0), BAD);
        CHECK.due("anchor(0, 0)", x.anchor(0, 0), BAD);
        CHECK.due("fair(0, 0)", x.fair(0, 0), BAD);
        CHECK.due("the first work", x.work(9, 9, 9, 9), 0);
        CHECK.due("given(0, 0)", x.given(0, 0), NONE);
        CHECK.due("given(0, 1)", x.given(0, 1), BAD);
    }

    private static void factsZeroToNine() {
        CHECK.sentence("FACTS of a WORK are four numbers 0 .. 9");
        for (int v = 0; v <= 9; v++) {
            MarkSheets x = new MarkSheets();
            CHECK.due("work of " + v, x.work(v, 9 - v, v, 9 - v), 0);
            for (int i = 0; i < 4; i++) {
                CHECK.due("its fact " + i, x.fact(0, i, 0), i % 2 == 0 ? v : 9 - v);
            }
        }
    }

    private static void twelveAtMost() {
        CHECK.sentence("WORKS (12 at most)");
        MarkSheets x = new MarkSheets();
        for (int i = 0; i < 12; i++) {
            CHECK.due("count(0)", x.count(0), i);
            CHECK.due("work " + i, x.work(i % 10, 0, 0, 9), i);
        }
        for (int i = 0; i < 3; i++) {
            CHECK.due("one more", x.work(5, 5, 5, 5), FULL);
            CHECK.due("count(0)", x.count(0), 12);
        }
        CHECK.due("there is no work 12", x.given(0, 12), BAD);
        for (int i = 0; i < 12; i++) {
            CHECK.due("fact of work " + i + " is kept", x.fact(i, 0, 0), i % 10);
        }
        CHECK.due("mark of the last", x.mark(2, 11, 3), NONE);
        CHECK.due("mark of the last", x.given(2, 11), 3);
    }

    private static void factTellsWhatItWas() {
        CHECK.sentence("A FACT of a WORK becomes v: what it was");
        MarkSheets x = new MarkSheets();
        x.work(1, 2, 3, 4);
        x.work(5, 6, 7, 8);
        for (int i = 0; i < 4; i++) {
            CHECK.due("fact " + i + " becomes 9", x.fact(1, i, 9), 5 + i);
            CHECK.due("fact " + i + " becomes 0", x.fact(1, i, 0), 9);
            CHECK.due("fact " + i + " becomes 0 again", x.fact(1, i, 0), 0);
        }
        for (int i = 0; i < 4; i++) {
            CHECK.due("fact " + i + " of the other work", x.fact(0, i, 0), 1 + i);
        }
    }

    private static void noneCountsZero() {
        CHECK.sentence("(NONE counts 0)");
        MarkSheets x = new MarkSheets();
        x.work(9, 9, 9, 9);
        for (int line = 0; line < 4; line++) {
            x.line(0, line, 0, line, 9);
            x.span(0, line, 3, 9, 8);
            CHECK.due("level of line " + line, x.level(0, line, 9), NONE);
            CHECK.due("points with " + (line + 1) + " of NONE", x.points(0, 0), 3 * (3 - line));
        }
        x.line(0, 2, 1, 2, 9);
        CHECK.due("FILLED has level 2 there", x.points(0, 0), 18);
    }

    private static void pointsOfAllLines() {
        CHECK.sentence("the sum of WEIGHTS times LEVELS of all LINES");
        MarkSheets x = new MarkSheets();
        x.work(0, 3, 6, 9);
        int[] each = {0, 1, 2, 3};
        for (int line = 0; line < 4; line++) {
            for (int weight = 0; weight <= 9; weight += 3) {
                x.line(1, line, 0, line, weight);
                CHECK.due("line " + line + " of weight " + weight, x.points(1, 0), 6 + each[line] * (weight - 1));
            }
            x.line(1, line, 0, line, 1);
        }
        for (int line = 0; line < 4; line++) {
            x.line(1, line, 0, 3, 9);
        }
        CHECK.due("the most that there can be", x.points(1, 0), 108);
        CHECK.due("the other sheet", x.points(0, 0), 6);
        for (int line = 0; line < 4; line++) {
            x.line(1, line, 2, 3, 0);
        }
        CHECK.due("no weights", x.points(1, 0), 0);
        x.line(0, 0, 0, 1, 1);
        CHECK.due("two lines of one fact", x.points(0, 0), 1 + 1 + 2 + 3);
        x.line(0, 0, 2, 1, 1);
        CHECK.due("of one fact, by other kinds", x.points(0, 0), 2 + 1 + 2 + 3);
    }

    private static void noMarkAtFirst() {
        CHECK.sentence("MARKERS 0 .. 2 give a WORK a MARK 0 .. 3, or none (as at first)");
        MarkSheets x = new MarkSheets();
        for (int work = 0; work < 12; work++) {
            x.work(0, 0, 0, 0);
            for (int marker = 0; marker < 3; marker++) {
                CHECK.due("given(" + marker + ", " + work + ")", x.given(marker, work), NONE);
                CHECK.due("mark(" + marker + ", " + work + ", ..)", x.mark(marker, work, work % 4), NONE);
                CHECK.due("given(" + marker + ", " + work + ")", x.given(marker, work), work % 4);
            }
        }
        CHECK.due("the first one stays", x.given(0, 0), 0);
    }

    private static void noneTakesAMarkBack() {
        CHECK.sentence("A MARKER's mark of a WORK becomes v (NONE: none): what it was (NONE)");
        MarkSheets x = Made.works(2);
        CHECK.due("none becomes none", x.mark(1, 1, NONE), NONE);
        for (int v = 0; v < 4; v++) {
            CHECK.due("none becomes " + v, x.mark(1, 1, v), NONE);
            CHECK.due("one mark", x.count(2), 1);
            CHECK.due(v + " becomes " + (3 - v), x.mark(1, 1, 3 - v), v);
            CHECK.due(3 - v + " becomes none", x.mark(1, 1, NONE), 3 - v);
            CHECK.due("no mark", x.count(2), 0);
            CHECK.due("given", x.given(1, 1), NONE);
        }
        for (int marker = 0; marker < 3; marker++) {
            CHECK.due("work 0 has none by " + marker, x.given(marker, 0), NONE);
        }
    }

    private static void like(String text, MarkSheets x, int upper, int lower, int both) {
        CHECK.due(text + ": upper", x.like(0, 1, 0), upper);
        CHECK.due(text + ": lower", x.like(0, 1, 1), lower);
        CHECK.due(text + ": both", x.like(0, 1, 2), both);
        CHECK.due(text + ": upper, the other way", x.like(1, 0, 0), upper);
        CHECK.due(text + ": lower, the other way", x.like(1, 0, 1), lower);
        CHECK.due(text + ": both, the other way", x.like(1, 0, 2), both);
    }

    private static MarkSheets twoMarkers(int[] one, int[] other) {
        MarkSheets x = Made.works(one.length);
        Made.give(x, 0, one);
        Made.give(x, 1, other);
        return x;
    }

    private static void likenessOverBothMarked() {
        CHECK.sentence("over the n WORKS that both marked");
        MarkSheets x = twoMarkers(new int[] {3, 0, NONE, 1, 1, 2, NONE}, new int[] {NONE, 0, 2, 0, 1, NONE, NONE});
        // Works 1, 3, 4: A = 2, E = 1 * 2 + 2 * 1, (6 - 4) by (9 - 4).
        like("marks of one alone", x, 2, 5, 3);
        x.mark(1, 3, NONE);
        like("one taken back", x, 1, 1, 2);
        x.mark(1, 5, 2);
        like("one given", x, 1, 1, 3);
        MarkSheets twelve = twoMarkers(new int[] {0, 0, 0, 0, 0, 0, 1, 1, 1, 1, 1, 1},
            new int[] {0, 0, 0, 0, 0, 1, 1, 1, 1, 1, 1, 1});
        // A = 11, E = 6 * 5 + 6 * 7, (132 - 72) by (144 - 72).
        like("twelve works", twelve, 5, 6, 12);
        twelve.mark(1, 11, NONE);
        // n = 11, A = 10, E = 6 * 5 + 5 * 6, (110 - 60) by (121 - 60).
        like("eleven works", twelve, 50, 61, 11);
    }

    private static void likenessInLeastForm() {
        CHECK.sentence("in least form, the lower part above 0");
        like("17 is prime", twoMarkers(new int[] {0, 0, 1, 1, 2}, new int[] {0, 1, 1, 2, 2}), 7, 17, 5);
        like("8 by 12", twoMarkers(new int[] {0, 1, 2, 3}, new int[] {0, 1, 2, 2}), 2, 3, 4);
        like("108 by 108", twoMarkers(new int[] {0, 1, 2, 3, 0, 1, 2, 3, 0, 1, 2, 3},
            new int[] {0, 1, 2, 3, 0, 1, 2, 3, 0, 1, 2, 3}), 1, 1, 12);
        like("0 by 8", twoMarkers(new int[] {0, 0, 1, 1}, new int[] {0, 1, 0, 1}), 0, 1, 4);
        like("0 by 144", twoMarkers(Made.times(12, 0), Made.times(12, 3)), 0, 1, 12);
        like("0 by 1", twoMarkers(new int[] {0}, new int[] {3}), 0, 1, 1);
    }

    private static void likenessBelowZero() {
        CHECK.sentence("(A n - E) by (n n - E) (A n below E)");
        like("-2 by 2", twoMarkers(new int[] {0, 1}, new int[] {1, 0}), -1, 1, 2);
        like("-4 by 12", twoMarkers(new int[] {0, 1, 2, 3}, new int[] {1, 2, 3, 0}), -1, 3, 4);
        like("-36 by 108", twoMarkers(new int[] {0, 1, 2, 3, 0, 1, 2, 3, 0, 1, 2, 3},
            new int[] {1, 2, 3, 0, 1, 2, 3, 0, 1, 2, 3, 0}), -1, 3, 12);
        like("-4 by 5", twoMarkers(new int[] {0, 0, 1}, new int[] {1, 1, 0}), -4, 5, 3);
    }

    private static void noLikenessIfLowerIsZero() {
        CHECK.sentence("none, if that would be 0");
        for (int mark = 0; mark < 4; mark++) {
            like("one work, both " + mark, twoMarkers(new int[] {mark}, new int[] {mark}), STATE, STATE, 1);
            like("twelve works, all " + mark, twoMarkers(Made.times(12, mark), Made.times(12, mark)), STATE, STATE, 12);
        }
        MarkSheets x = twoMarkers(new int[] {2, 2, 1}, new int[] {2, 2, NONE});
        like("one of them marked more", x, STATE, STATE, 2);
        x.mark(1, 2, 2);
        like("E is 6 of 9", x, 0, 1, 3);
    }

    private static void noLikenessIfThereAreNone() {
        CHECK.sentence("or there are none; STATE: there is none (0, 1)");
        like("no works", new MarkSheets(), STATE, STATE, 0);
        like("no marks", Made.works(12), STATE, STATE, 0);
        like("marks by one alone", twoMarkers(new int[] {0, 1, 2}, Made.times(3, NONE)), STATE, STATE, 0);
        like("no work in common", twoMarkers(new int[] {0, NONE, 2}, new int[] {NONE, 1, NONE}), STATE, STATE, 0);
    }

    private static void likenessOfUnlikeMarkers() {
        CHECK.sentence("BAD (two unlike MARKERS)");
        MarkSheets x = Made.works(4);
        for (int marker = 0; marker < 3; marker++) {
            Made.give(x, marker, 0, 1, 2, 3);
        }
        for (int one = 0; one < 3; one++) {
            for (int other = 0; other < 3; other++) {
                CHECK.due("like(" + one + ", " + other + ", 0)", x.like(one, other, 0), one == other ? BAD : 1);
                CHECK.due("like(" + one + ", " + other + ", 1)", x.like(one, other, 1), one == other ? BAD : 1);
                CHECK.due("like(" + one + ", " + other + ", 2)", x.like(one, other, 2), one == other ? BAD : 4);
            }
        }
    }

    private static void parts(String text, int want, int[] one, int[] other) {
        MarkSheets x = twoMarkers(one, other);
        CHECK.due(text, x.parts(0, 1), want);
        CHECK.due(text + ", the other way", x.parts(1, 0), want);
    }

    private static void partsMost() {
        CHECK.sentence("the greatest size of the difference of their marks");
        parts("by 1, by 2", 1, new int[] {0, 0}, new int[] {1, 2});
        parts("by -1, by 2", 1, new int[] {1, 0}, new int[] {0, 2});
        parts("by 1, by -2", 1, new int[] {0, 2}, new int[] {1, 0});
        parts("by 3 after 2, before 1", 1, new int[] {0, 3, 0}, new int[] {2, 0, 1});
        parts("alike, then by 1", 1, new int[] {3, 3}, new int[] {3, 2});
        int[] last = Made.times(12, 1);
        last[11] = 0;
        parts("the last of twelve", 11, Made.times(12, 1), last);
    }

    private static void partsLeastNumber() {
        CHECK.sentence("of several the least number");
        parts("all by 1", 0, new int[] {0, 1, 2}, new int[] {1, 2, 3});
        parts("by 2 and by -2", 1, new int[] {0, 3, 0, 3}, new int[] {1, 1, 2, 1});
        parts("by -3 and by 3", 2, new int[] {1, 1, 3, 0}, new int[] {1, NONE, 0, 3});
    }

    private static void partsNoneMarkedBoth() {
        CHECK.sentence("NONE, if they marked none both");
        CHECK.due("no works", new MarkSheets().parts(0, 1), NONE);
        CHECK.due("no marks", Made.works(3).parts(2, 0), NONE);
        parts("one marked, the other did not", NONE, new int[] {0, 3}, new int[] {NONE, NONE});
        parts("not one in common", NONE, new int[] {0, NONE}, new int[] {NONE, 3});
        parts("only what both marked", 2, new int[] {3, NONE, 1}, new int[] {NONE, 0, 2});
    }

    private static void partsAllAlike() {
        CHECK.sentence("or all alike");
        parts("one work", NONE, new int[] {0}, new int[] {0});
        parts("four works", NONE, new int[] {0, 1, 2, 3}, new int[] {0, 1, 2, 3});
        parts("alike where both marked", NONE, new int[] {0, 1, NONE}, new int[] {0, NONE, 3});
    }
}
