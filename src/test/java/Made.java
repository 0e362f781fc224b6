/** Objects in the states that tests start from. */
final class Made {
    private Made() {
    }

    /** Line 0 of sheet 0 is of a kind, with four spans, each from, to. */
    static MarkSheets line(int kind, int... spans) {
        MarkSheets x = new MarkSheets();
        x.line(0, 0, kind, 0, 1);
        for (int level = 0; level < 4; level++) {
            x.span(0, 0, level, spans[2 * level], spans[2 * level + 1]);
        }
        return x;
    }

    /** Line 0 of sheet 0 has the span of one level alone; the others are empty. */
    static MarkSheets onlySpan(int kind, int level, int from, int to) {
        int[] spans = {9, 0, 9, 0, 9, 0, 9, 0};
        spans[2 * level] = from;
        spans[2 * level + 1] = to;
        return line(kind, spans);
    }

    static MarkSheets works(int n) {
        MarkSheets x = new MarkSheets();
        for (int i = 0; i < n; i++) {
            x.work(0, 0, 0, 0);
        }
        return x;
    }

    static void give(MarkSheets x, int marker, int... marks) {
        for (int i = 0; i < marks.length; i++) {
            x.mark(marker, i, marks[i]);
        }
    }

    static void anchor(MarkSheets x, int... trueMarks) {
        for (int i = 0; i < trueMarks.length; i++) {
            x.anchor(i, trueMarks[i]);
        }
    }

    /** As many works as marks, which marker 1 gave them. */
    static MarkSheets marked(int... marks) {
        MarkSheets x = works(marks.length);
        give(x, 1, marks);
        return x;
    }

    static int[] times(int n, int mark) {
        int[] marks = new int[n];
        java.util.Arrays.fill(marks, mark);
        return marks;
    }
}
