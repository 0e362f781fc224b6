/** Promises 19 to 22: moves, copy, count, trace. */
public final class TwoSheetsTest {
    private static final int BAD = MarkSheets.BAD, NONE = MarkSheets.NONE;
    private static final int[] OUTSIDE = {Integer.MIN_VALUE, NONE, -1, 5, Integer.MAX_VALUE};
    private static final Check CHECK = new Check();

    public static void main(String[] args) {
        moves();
        movesOfTwelve();
        copy();
        copyDoesNotTie();
        count();
        trace();
        CHECK.end();
    }

    private static void moves() {
        MarkSheets x = new MarkSheets();
        CHECK.due("no works: moves(0)", x.moves(0), 0);
        CHECK.due("no works: moves(1)", x.moves(1), 0);
        x.work(9, 0, 0, 0);
        x.work(5, 5, 0, 0);
        x.work(0, 9, 0, 0);
        x.work(0, 0, 0, 0);
        CHECK.due("sheets alike: moves(0)", x.moves(0), 0);
        CHECK.due("sheets alike: moves(1)", x.moves(1), 0);
        x.line(1, 1, 0, 1, 2);
        // By sheet 0: 3, 4, 3, 0; by sheet 1: 3, 6, 6, 0. Pairs that become or were level are not turned.
        CHECK.due("fact 1 twice: moves(0)", x.moves(0), 2);
        CHECK.due("fact 1 twice: moves(1)", x.moves(1), 0);
        x.line(0, 0, 0, 0, 3);
        // By sheet 0: 9, 8, 3, 0.
        CHECK.due("fact 0 thrice: moves(0)", x.moves(0), 3);
        CHECK.due("fact 0 thrice: moves(1)", x.moves(1), 2);
        x.copy(2);
        CHECK.due("changed places: moves(1)", x.moves(1), 2);
        CHECK.due("moves(2)", x.moves(2), BAD);
        for (int far : OUTSIDE) {
            CHECK.due("moves(" + far + ")", x.moves(far), BAD);
        }
        CHECK.due("moves does not come to the trace", x.trace(), 0);
    }

    private static void movesOfTwelve() {
        MarkSheets x = new MarkSheets();
        for (int i = 0; i < 12; i++) {
            x.work(i < 6 ? 9 : 0, i < 6 ? 0 : 9, 0, 0);
        }
        x.line(0, 0, 0, 0, 5);
        x.line(1, 1, 0, 1, 5);
        CHECK.due("twelve works: moves(0)", x.moves(0), 12);
        CHECK.due("twelve works: moves(1)", x.moves(1), 36);
    }

    /** Sheet 0 gets lines of one weight, sheet 1 of another, so that they can be told apart. */
    private static MarkSheets twoSheets() {
        MarkSheets x = new MarkSheets();
        for (int line = 0; line < 4; line++) {
            x.line(0, line, 1, 3 - line, 4);
            x.span(0, line, 0, 6, 2);
            x.span(0, line, 2, 5, 8);
            x.line(1, line, 2, 0, 7);
            x.span(1, line, 3, 6, 9);
        }
        return x;
    }

    private static void holds(String text, MarkSheets x, int sheet, boolean asFirst) {
        for (int line = 0; line < 4; line++) {
            int[] first = {1, 3 - line, 4, 6, 2, 1, 3, 5, 8, 7, 9};
            int[] second = {2, 0, 7, 0, 0, 1, 3, 4, 6, 6, 9};
            for (int what = 0; what <= 10; what++) {
                String call = text + ": about(" + sheet + ", " + line + ", " + what + ")";
                CHECK.due(call, x.about(sheet, line, what), asFirst ? first[what] : second[what]);
            }
        }
    }

    private static void copy() {
        MarkSheets x = twoSheets();
        CHECK.due("copy(0)", x.copy(0), 1);
        holds("copy(0)", x, 0, true);
        holds("copy(0)", x, 1, true);
        x = twoSheets();
        CHECK.due("copy(1)", x.copy(1), 1);
        holds("copy(1)", x, 0, false);
        holds("copy(1)", x, 1, false);
        x = twoSheets();
        CHECK.due("copy(2)", x.copy(2), 1);
        holds("copy(2)", x, 0, false);
        holds("copy(2)", x, 1, true);
        CHECK.due("copy(3)", x.copy(3), BAD);
        for (int far : OUTSIDE) {
            CHECK.due("copy(" + far + ")", x.copy(far), BAD);
        }
        holds("a refused copy", x, 0, false);
        holds("a refused copy", x, 1, true);
    }

    private static void copyDoesNotTie() {
        for (int way = 0; way < 3; way++) {
            MarkSheets x = new MarkSheets();
            x.copy(way);
            x.span(0, 0, 3, 2, 5);
            x.line(0, 0, 2, 2, 9);
            CHECK.due("after copy(" + way + ") the other from", x.about(1, 0, 9), 7);
            CHECK.due("after copy(" + way + ") the other to", x.about(1, 0, 10), 9);
            CHECK.due("after copy(" + way + ") the other kind", x.about(1, 0, 0), 0);
            CHECK.due("after copy(" + way + ") the one", x.about(0, 0, 9), 2);
        }
    }

    private static void count() {
        MarkSheets x = new MarkSheets();
        x.work(0, 0, 0, 0);
        x.work(0, 0, 0, 0);
        x.mark(0, 0, 0);
        x.mark(2, 0, 3);
        x.mark(2, 1, 3);
        x.mark(2, 1, 2);
        x.anchor(1, 0);
        CHECK.due("count(0)", x.count(0), 2);
        CHECK.due("count(1)", x.count(1), 1);
        CHECK.due("count(2)", x.count(2), 3);
        CHECK.due("count(3)", x.count(3), 4);
        CHECK.due("count(4)", x.count(4), 4);
        x.span(0, 1, 0, 1, 1);
        x.span(1, 0, 3, 8, 9);
        x.span(1, 3, 1, 0, 3);
        CHECK.due("count(3)", x.count(3), 3);
        CHECK.due("count(4)", x.count(4), 2);
        x.mark(0, 0, NONE);
        CHECK.due("count(2)", x.count(2), 2);
        for (int far : OUTSIDE) {
            CHECK.due("count(" + far + ")", x.count(far), BAD);
        }
        CHECK.due("count does not come to the trace", x.trace(), 0);
    }

    private static void trace() {
        MarkSheets x = new MarkSheets();
        x.line(0, 1, 1, 0, 1);
        x.line(0, 2, 2, 0, 1);
        x.span(0, 0, 0, 9, 0);
        CHECK.due("level(0, 0, 0)", x.level(0, 0, 0), NONE);
        CHECK.due("strict, NONE too", x.trace(), 1);
        x.level(0, 1, 5);
        CHECK.due("filled, asking what stands over it", x.trace(), 12);
        x.level(0, 2, 5);
        CHECK.due("kind, asking what stands over it", x.trace(), 123);
        x.level(0, 2, 10);
        x.level(2, 2, 1);
        CHECK.due("refused ones do not come to it", x.trace(), 123);
        x.work(1, 2, 3, 4);
        x.points(0, 0);
        x.moves(0);
        x.sensible(0, 2);
        x.count(3);
        CHECK.due("only level() comes to it", x.trace(), 123);
        x.copy(2);
        x.level(1, 2, 0);
        CHECK.due("the kind went with its line", x.trace(), 234);
    }
}
