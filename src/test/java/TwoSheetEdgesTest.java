/** The edges that the document names of MOVES, TURNED, copy and count: each sentence has its test. */
public final class TwoSheetEdgesTest {
    private static final int BAD = MarkSheets.BAD, NONE = MarkSheets.NONE;
    private static final Check CHECK = new Check();

    public static void main(String[] args) {
        movesWithoutWorks();
        movesOfOtherPoints();
        turnedPairs();
        turnedNotWhereLevel();
        turnedOfAll();
        copyFirstToSecond();
        copySecondToFirst();
        sheetsChangePlaces();
        copyLeavesTheRest();
        copyTiesNothing();
        countsAtFirst();
        countsAtMost();
        countOfMarksGiven();
        countOfSensibleLines();
        CHECK.end();
    }

    private static void moves(String text, MarkSheets x, int moves, int turned) {
        CHECK.due(text + ": moves", x.moves(0), moves);
        CHECK.due(text + ": turned", x.moves(1), turned);
    }

    private static void movesWithoutWorks() {
        CHECK.sentence("how many WORKS (of none)");
        MarkSheets x = new MarkSheets();
        moves("sheets alike", x, 0, 0);
        x.line(1, 0, 2, 3, 9);
        moves("sheets unlike", x, 0, 0);
        x.work(3, 0, 0, 9);
        moves("one work", x, 1, 0);
    }

    private static void movesOfOtherPoints() {
        CHECK.sentence("how many WORKS have other POINTS by SHEET 1 than by SHEET 0");
        MarkSheets x = new MarkSheets();
        x.work(0, 0, 0, 0);
        x.work(3, 0, 0, 0);
        x.work(6, 0, 0, 0);
        x.work(9, 0, 0, 0);
        moves("sheets alike", x, 0, 0);
        x.line(1, 0, 0, 0, 2);
        moves("more by sheet 1", x, 3, 0);
        x.copy(2);
        moves("fewer by sheet 1", x, 3, 0);
        x.copy(0);
        x.span(1, 0, 0, 9, 0);
        moves("NONE in place of 0 is no other", x, 0, 0);
        x.span(1, 0, 3, 9, 8);
        moves("NONE in place of 3 is another", x, 1, 2);
        MarkSheets level = new MarkSheets();
        level.work(9, 9, 0, 0);
        level.line(1, 0, 0, 0, 0);
        level.line(1, 1, 0, 1, 2);
        moves("other lines, the same points", level, 0, 0);
    }

    /** Works with the given facts 0 and 1; sheet 0 looks at fact 0 alone, sheet 1 at fact 1. */
    private static MarkSheets twoViews(int... facts) {
        MarkSheets x = new MarkSheets();
        for (int i = 0; i < facts.length; i += 2) {
            x.work(facts[i], facts[i + 1], 0, 0);
        }
        for (int line = 0; line < 4; line++) {
            x.line(0, line, 0, 0, line == 0 ? 1 : 0);
            x.line(1, line, 0, 1, line == 0 ? 1 : 0);
        }
        return x;
    }

    private static void turnedPairs() {
        CHECK.sentence("the one has more POINTS than the other by SHEET 0, fewer by SHEET 1");
        moves("the first had more", twoViews(9, 0, 0, 9), 2, 1);
        moves("the second had more", twoViews(0, 9, 9, 0), 2, 1);
        moves("more by both", twoViews(9, 9, 0, 0), 0, 0);
        moves("more by both, by other points", twoViews(6, 9, 0, 3), 2, 0);
        moves("fewer by both", twoViews(3, 6, 6, 9), 2, 0);
        moves("three works, three pairs", twoViews(3, 9, 6, 6, 9, 3), 2, 3);
        moves("a pair that stands apart", twoViews(6, 3, 9, 9, 3, 6), 2, 1);
    }

    private static void turnedNotWhereLevel() {
        CHECK.sentence("more .. fewer (alike is neither)");
        moves("alike by sheet 0", twoViews(6, 9, 6, 0), 2, 0);
        moves("alike by sheet 0, the other way", twoViews(6, 0, 6, 9), 2, 0);
        moves("alike by sheet 1", twoViews(9, 3, 0, 3), 2, 0);
        moves("alike by sheet 1, the other way", twoViews(0, 3, 9, 3), 2, 0);
        moves("alike by both", twoViews(3, 6, 3, 6), 2, 0);
    }

    private static void turnedOfAll() {
        CHECK.sentence("of pairs of WORKS how many");
        MarkSheets x = new MarkSheets();
        for (int i = 0; i < 12; i++) {
            int back = 11 - i;
            x.work(3 * (i / 4), 3 * (i % 4), 3 * (back / 4), 3 * (back % 4));
        }
        int[][] weights = {{4, 1, 0, 0}, {0, 0, 4, 1}};
        for (int i = 0; i < 8; i++) {
            x.line(i / 4, i % 4, 0, i % 4, weights[i / 4][i % 4]);
        }
        for (int i = 0; i < 12; i++) {
            CHECK.due("points(0, " + i + ")", x.points(0, i), i);
            CHECK.due("points(1, " + i + ")", x.points(1, i), 11 - i);
        }
        moves("twelve works, 66 pairs", x, 12, 66);
    }

    /** Of a line of sheet 0 and of sheet 1, all that about() tells; no number is the same in both. */
    private static int[] row(int sheet, int line) {
        return sheet == 0 ? new int[] {1, 3 - line, 4, 6, 2, 8, 4, 2, line, 3, 5}
            : new int[] {2, (4 - line) % 4, 7 + line % 2, 0, 1, 1, 3, 9, 8, 6, 9};
    }

    private static MarkSheets twoSheets() {
        MarkSheets x = new MarkSheets();
        for (int i = 0; i < 8; i++) {
            int[] row = row(i / 4, i % 4);
            x.line(i / 4, i % 4, row[0], row[1], row[2]);
            for (int k = 0; k < 4; k++) {
                x.span(i / 4, i % 4, k, row[3 + 2 * k], row[4 + 2 * k]);
            }
        }
        return x;
    }

    private static void holds(String text, MarkSheets x, int first, int second) {
        for (int i = 0; i < 8; i++) {
            int[] want = row(i < 4 ? first : second, i % 4);
            for (int what = 0; what <= 10; what++) {
                CHECK.due(text + ": about(" + i / 4 + ", " + i % 4 + ", " + what + ")",
                    x.about(i / 4, i % 4, what), want[what]);
            }
        }
    }

    private static void copyFirstToSecond() {
        CHECK.sentence("SHEET 1 becomes as SHEET 0 (way = 0)");
        MarkSheets x = twoSheets();
        holds("before", x, 0, 1);
        CHECK.due("copy(0)", x.copy(0), 1);
        holds("after", x, 0, 0);
    }

    private static void copySecondToFirst() {
        CHECK.sentence("0 as 1 (1)");
        MarkSheets x = twoSheets();
        CHECK.due("copy(1)", x.copy(1), 1);
        holds("after", x, 1, 1);
    }

    private static void sheetsChangePlaces() {
        CHECK.sentence("they change places (2)");
        MarkSheets x = twoSheets();
        CHECK.due("copy(2)", x.copy(2), 1);
        holds("after", x, 1, 0);
        CHECK.due("copy(2)", x.copy(2), 1);
        holds("after twice", x, 0, 1);
        CHECK.due("copy(-1)", x.copy(-1), BAD);
        CHECK.due("copy(3)", x.copy(3), BAD);
        holds("after refused ones", x, 0, 1);
    }

    private static void copyLeavesTheRest() {
        CHECK.sentence("SHEET 1 becomes as SHEET 0 (and nothing but SHEETS changes)");
        for (int way = 0; way < 3; way++) {
            MarkSheets x = twoSheets();
            x.work(1, 2, 3, 4);
            x.mark(2, 0, 3);
            x.anchor(0, 1);
            x.level(1, 0, 0);
            x.copy(way);
            CHECK.due("works", x.count(0), 1);
            CHECK.due("its mark", x.given(2, 0), 3);
            CHECK.due("trace", x.trace(), 111);
            CHECK.due("what was true", x.anchor(0, NONE), 1);
            for (int i = 0; i < 4; i++) {
                CHECK.due("its fact " + i, x.fact(0, i, 0), 1 + i);
            }
        }
    }

    private static void copyTiesNothing() {
        CHECK.sentence("becomes as (each SHEET is its own after it)");
        for (int way = 0; way < 3; way++) {
            for (int sheet = 0; sheet < 2; sheet++) {
                MarkSheets x = new MarkSheets();
                x.copy(way);
                x.line(sheet, 2, 2, 3, 9);
                x.span(sheet, 2, 1, 5, 4);
                int[] other = {0, 2, 1, 0, 0, 1, 3, 4, 6, 7, 9};
                int[] own = {2, 3, 9, 0, 0, 5, 4, 4, 6, 7, 9};
                for (int what = 0; what <= 10; what++) {
                    CHECK.due("way " + way + ": the other's " + what, x.about(1 - sheet, 2, what), other[what]);
                    CHECK.due("way " + way + ": its own " + what, x.about(sheet, 2, what), own[what]);
                }
            }
        }
    }

    private static void counts(String text, MarkSheets x, int... want) {
        for (int what = 0; what < 5; what++) {
            CHECK.due(text + ": count(" + what + ")", x.count(what), want[what]);
        }
    }

    private static void countsAtFirst() {
        CHECK.sentence("0 WORKS, 1 ANCHORS, 2 marks that are given, 3 SENSIBLE LINES of SHEET 0, 4 of SHEET 1");
        MarkSheets x = new MarkSheets();
        counts("at first", x, 0, 0, 0, 4, 4);
        x.work(0, 0, 0, 0);
        counts("a work", x, 1, 0, 0, 4, 4);
        x.anchor(0, 0);
        counts("an anchor", x, 1, 1, 0, 4, 4);
        x.mark(0, 0, 0);
        x.mark(1, 0, 0);
        counts("two marks", x, 1, 1, 2, 4, 4);
    }

    private static void countsAtMost() {
        CHECK.sentence("WORKS (12 at most): counts");
        MarkSheets x = Made.works(12);
        Made.anchor(x, Made.times(12, 0));
        for (int marker = 0; marker < 3; marker++) {
            Made.give(x, marker, Made.times(12, 0));
        }
        x.work(0, 0, 0, 0);
        counts("all that there can be", x, 12, 12, 36, 4, 4);
    }

    private static void countOfMarksGiven() {
        CHECK.sentence("2 marks that are given");
        MarkSheets x = Made.works(3);
        x.mark(0, 0, 3);
        x.mark(0, 0, 2);
        x.mark(0, 0, 2);
        CHECK.due("given again", x.count(2), 1);
        x.mark(1, 0, 2);
        x.mark(2, 2, 0);
        CHECK.due("by all three", x.count(2), 3);
        x.mark(1, 0, NONE);
        x.mark(1, 1, NONE);
        CHECK.due("taken back", x.count(2), 2);
        x.anchor(1, 3);
        CHECK.due("a TRUE mark is not given", x.count(2), 2);
    }

    private static void countOfSensibleLines() {
        CHECK.sentence("3 SENSIBLE LINES of SHEET 0, 4 of SHEET 1");
        for (int sheet = 0; sheet < 2; sheet++) {
            MarkSheets x = new MarkSheets();
            for (int line = 3; line >= 0; line--) {
                x.span(sheet, line, 3, 7, 8);
                CHECK.due("the sheet without line " + line, x.count(3 + sheet), line);
                CHECK.due("the other one", x.count(4 - sheet), 4);
            }
            x.span(sheet, 2, 3, 7, 9);
            CHECK.due("line 2 again", x.count(3 + sheet), 1);
        }
    }
}
