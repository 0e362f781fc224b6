/** The edges that the document names of LINES, SPANS, LEVELS and THE TRACE: each sentence has its test. */
public final class SheetEdgesTest {
    private static final int NONE = MarkSheets.NONE;
    private static final int STRICT = 0, FILLED = 1, KIND = 2;
    private static final int ALL = 1023;
    private static final Check CHECK = new Check();

    public static void main(String[] args) {
        weightAtFirst();
        spansAtFirst();
        linesAtFirst();
        emptySpans();
        spansHaveTheirEnds();
        strictTakesTheGreatest();
        strictHasNone();
        filledLeavesWhatStrictHas();
        filledTakesTheGreatestBelow();
        filledPassesOverEmptySpans();
        filledIsZero();
        kindGivesOneMore();
        kindStopsAtThree();
        kindLooksAtItsOwnLevel();
        kindOfFilledFacts();
        emptySpansHaveNoLast();
        traceOfKinds();
        traceOfLevelAlone();
        gaps();
        overlaps();
        tenBits();
        sensibleHasNoGap();
        sensibleHasNoOverlap();
        sensibleNeverFalls();
        sensibleByItsKind();
        CHECK.end();
    }

    private static void levels(String text, MarkSheets x, int... want) {
        for (int v = 0; v <= 9; v++) {
            CHECK.due(text + ": level for " + v, x.level(0, 0, v), want[v]);
        }
    }

    private static String told(int level, int from, int to) {
        return "level " + level + " is " + from + " .. " + to;
    }

    /** The bits of the facts from .. to. */
    private static int bits(int from, int to) {
        int bits = 0;
        for (int v = from; v <= to; v++) {
            bits |= 1 << v;
        }
        return bits;
    }

    private static void weightAtFirst() {
        CHECK.sentence("a WEIGHT (0 .. 9; 1 at first)");
        MarkSheets x = new MarkSheets();
        for (int line = 0; line < 4; line++) {
            CHECK.due("weight of line " + line, x.about(0, line, 2), 1);
            CHECK.due("weight of line " + line + " of sheet 1", x.about(1, line, 2), 1);
        }
        for (int weight = 0; weight <= 9; weight++) {
            CHECK.due("line of weight " + weight, x.line(1, 2, 0, 0, weight), 1);
            CHECK.due("its weight", x.about(1, 2, 2), weight);
        }
    }

    private static void spansAtFirst() {
        CHECK.sentence("at first LEVEL k is 3 k - 2 .. 3 k, LEVEL 0 is 0 .. 0");
        MarkSheets x = new MarkSheets();
        for (int i = 0; i < 8; i++) {
            int sheet = i / 4, line = i % 4;
            CHECK.due("from of level 0", x.about(sheet, line, 3), 0);
            CHECK.due("to of level 0", x.about(sheet, line, 4), 0);
            for (int k = 1; k < 4; k++) {
                CHECK.due("from of level " + k, x.about(sheet, line, 3 + 2 * k), 3 * k - 2);
                CHECK.due("to of level " + k, x.about(sheet, line, 4 + 2 * k), 3 * k);
            }
        }
    }

    private static void linesAtFirst() {
        CHECK.sentence("At first LINE k of each SHEET is STRICT, of FACT k");
        MarkSheets x = new MarkSheets();
        for (int i = 0; i < 8; i++) {
            CHECK.due("kind of line " + i % 4, x.about(i / 4, i % 4, 0), STRICT);
            CHECK.due("fact of line " + i % 4, x.about(i / 4, i % 4, 1), i % 4);
        }
    }

    private static void emptySpans() {
        CHECK.sentence("from above to: empty");
        for (int to = 0; to <= 8; to++) {
            for (int from = to + 1; from <= 9; from++) {
                for (int k = 0; k < 4; k++) {
                    MarkSheets x = Made.onlySpan(STRICT, k, from, to);
                    CHECK.due(told(k, from, to) + ": from", x.about(0, 0, 3 + 2 * k), from);
                    CHECK.due(told(k, from, to) + ": to", x.about(0, 0, 4 + 2 * k), to);
                    levels(told(k, from, to), x, Made.times(10, NONE));
                    CHECK.due(told(k, from, to) + ": gaps", x.sense(0, 0, 0), ALL);
                }
            }
        }
    }

    private static void spansHaveTheirEnds() {
        CHECK.sentence("the greatest LEVEL whose SPAN has v");
        for (int from = 0; from <= 9; from++) {
            for (int to = from; to <= 9; to++) {
                for (int k = 0; k < 4; k++) {
                    int[] want = Made.times(10, NONE);
                    java.util.Arrays.fill(want, from, to + 1, k);
                    levels(told(k, from, to), Made.onlySpan(STRICT, k, from, to), want);
                }
            }
        }
    }

    private static void strictTakesTheGreatest() {
        CHECK.sentence("the greatest LEVEL (of several SPANS that have v)");
        for (int less = 0; less < 4; less++) {
            for (int more = less + 1; more < 4; more++) {
                MarkSheets x = Made.onlySpan(STRICT, less, 0, 9);
                x.span(0, 0, more, 5, 5);
                CHECK.due("the narrower of " + less + ", " + more, x.level(0, 0, 5), more);
                CHECK.due("beside the narrower of " + less + ", " + more, x.level(0, 0, 6), less);
                x.span(0, 0, more, 0, 9);
                x.span(0, 0, less, 5, 5);
                CHECK.due("the wider of " + less + ", " + more, x.level(0, 0, 5), more);
            }
        }
        levels("all four", Made.line(STRICT, 0, 9, 0, 9, 0, 9, 0, 9), Made.times(10, 3));
    }

    private static void strictHasNone() {
        CHECK.sentence("NONE, if none has");
        levels("gaps at both ends", Made.line(STRICT, 1, 2, 3, 4, 5, 6, 7, 8), NONE, 0, 0, 1, 1, 2, 2, 3, 3, NONE);
        levels("a gap within", Made.line(STRICT, 0, 3, 5, 6, 7, 8, 9, 9), 0, 0, 0, 0, NONE, 1, 1, 2, 2, 3);
    }

    private static void filledLeavesWhatStrictHas() {
        CHECK.sentence("FILLED: up; where that is NONE ..");
        levels("a greater level lies below", Made.line(FILLED, 9, 0, 5, 8, 9, 0, 0, 4), 3, 3, 3, 3, 3, 1, 1, 1, 1, 3);
        levels("level 0 is not NONE", Made.line(FILLED, 4, 9, 9, 0, 0, 3, 9, 0), 2, 2, 2, 2, 0, 0, 0, 0, 0, 0);
    }

    private static void filledTakesTheGreatestBelow() {
        CHECK.sentence("the greatest LEVEL whose SPAN (not empty) lies below v");
        for (int from = 0; from <= 9; from++) {
            for (int to = from; to <= 9; to++) {
                for (int k = 1; k < 4; k++) {
                    int[] want = Made.times(10, k);
                    java.util.Arrays.fill(want, 0, from, 0);
                    levels(told(k, from, to), Made.onlySpan(FILLED, k, from, to), want);
                }
            }
        }
        levels("not the nearest", Made.line(FILLED, 6, 6, 9, 0, 4, 4, 1, 2), 0, 3, 3, 3, 2, 3, 0, 3, 3, 3);
        levels("2 of 1 and 2", Made.line(FILLED, 0, 0, 4, 4, 1, 2, 9, 9), 0, 2, 2, 2, 1, 2, 2, 2, 2, 3);
        levels("1 of 0 and 1", Made.line(FILLED, 3, 3, 1, 1, 9, 0, 9, 9), 0, 1, 1, 0, 1, 1, 1, 1, 1, 3);
    }

    private static void filledPassesOverEmptySpans() {
        CHECK.sentence("(not empty)");
        levels("level 3 is 3 .. 1", Made.line(FILLED, 9, 0, 1, 2, 9, 0, 3, 1), 0, 1, 1, 1, 1, 1, 1, 1, 1, 1);
        levels("level 2 is 1 .. 0", Made.line(FILLED, 0, 0, 9, 8, 1, 0, 9, 8), Made.times(10, 0));
        for (int k = 1; k < 4; k++) {
            levels("level " + k + " is 5 .. 4", Made.onlySpan(FILLED, k, 5, 4), Made.times(10, 0));
        }
    }

    private static void filledIsZero() {
        CHECK.sentence("0, if none does");
        levels("all lie above", Made.line(FILLED, 9, 0, 7, 7, 8, 8, 9, 9), 0, 0, 0, 0, 0, 0, 0, 1, 2, 3);
        levels("level 0 lies above too", Made.line(FILLED, 5, 9, 9, 0, 9, 0, 9, 0), Made.times(10, 0));
        levels("all are empty", Made.line(FILLED, 9, 0, 9, 8, 1, 0, 5, 4), Made.times(10, 0));
    }

    private static void kindGivesOneMore() {
        CHECK.sentence("one more, where v is the last of its LEVEL's SPAN");
        for (int from = 0; from <= 9; from++) {
            for (int to = from; to <= 9; to++) {
                for (int k = 0; k < 3; k++) {
                    MarkSheets x = Made.onlySpan(KIND, k, from, to);
                    for (int v = from; v <= 9; v++) {
                        CHECK.due(told(k, from, to) + ": level for " + v, x.level(0, 0, v), v == to ? k + 1 : k);
                    }
                }
            }
        }
    }

    private static void kindStopsAtThree() {
        CHECK.sentence("(3 at most)");
        for (int to = 0; to <= 9; to++) {
            CHECK.due("the last of 0 .. " + to, Made.onlySpan(KIND, 3, 0, to).level(0, 0, to), 3);
        }
        CHECK.due("2 becomes 3", Made.onlySpan(KIND, 2, 4, 6).level(0, 0, 6), 3);
    }

    private static void kindLooksAtItsOwnLevel() {
        CHECK.sentence("of its LEVEL's SPAN");
        levels("5 is the last of a lesser level", Made.line(KIND, 0, 5, 3, 6, 9, 8, 9, 8),
            0, 0, 0, 1, 1, 1, 2, 1, 1, 1);
        levels("5 is the first of another", Made.line(KIND, 0, 9, 9, 8, 5, 7, 9, 8), 0, 0, 0, 0, 0, 2, 2, 3, 0, 1);
        levels("one more, no two", Made.line(KIND, 0, 2, 3, 3, 4, 4, 9, 9), 0, 0, 1, 2, 3, 2, 2, 2, 2, 3);
    }

    private static void kindOfFilledFacts() {
        CHECK.sentence("KIND: up (which FILLED is)");
        levels("gaps", Made.line(KIND, 0, 0, 2, 3, 9, 8, 6, 7), 1, 0, 1, 2, 1, 1, 3, 3, 3, 3);
        levels("below all", Made.line(KIND, 4, 5, 6, 7, 8, 9, 9, 8), 0, 0, 0, 0, 0, 1, 1, 2, 2, 3);
    }

    private static void emptySpansHaveNoLast() {
        CHECK.sentence("the last of its LEVEL's SPAN (an empty one has none)");
        levels("level 0 is 5 .. 4", Made.line(KIND, 5, 4, 9, 8, 9, 8, 9, 8), Made.times(10, 0));
        levels("level 0 is 9 .. 0", Made.line(KIND, 9, 0, 9, 8, 9, 8, 9, 8), Made.times(10, 0));
    }

    private static void traceOfKinds() {
        CHECK.sentence("numbers in brackets come to THE TRACE as often as level() asks that body");
        CHECK.due("at first", new MarkSheets().trace(), 0);
        int[] each = {1, 11, 111};
        for (int kind = STRICT; kind <= KIND; kind++) {
            MarkSheets x = Made.line(kind, 0, 2, 4, 5, 9, 8, 6, 7);
            for (int v = 0; v <= 9; v++) {
                x.level(0, 0, v);
                CHECK.due("kind " + kind + ", after level for " + v, x.trace(), each[kind] * (v + 1));
            }
            CHECK.due("asking for it adds nothing", x.trace(), each[kind] * 10);
        }
        MarkSheets x = new MarkSheets();
        x.line(1, 3, KIND, 0, 0);
        x.level(1, 3, 0);
        x.line(1, 3, FILLED, 0, 0);
        x.level(1, 3, 0);
        x.line(1, 3, STRICT, 0, 0);
        x.level(1, 3, 0);
        CHECK.due("one of each kind", x.trace(), 123);
    }

    private static void traceOfLevelAlone() {
        CHECK.sentence("as often as level() asks (no other call does)");
        MarkSheets x = Made.line(KIND, 0, 2, 4, 5, 9, 8, 6, 7);
        x.work(1, 2, 3, 4);
        x.work(4, 3, 2, 1);
        x.points(0, 0);
        CHECK.due("after points", x.trace(), 0);
        x.moves(0);
        x.moves(1);
        CHECK.due("after moves", x.trace(), 0);
        x.sense(0, 0, 0);
        x.sense(0, 0, 1);
        x.sensible(0, 0);
        x.sensible(0, 1);
        CHECK.due("after sense and sensible", x.trace(), 0);
        x.count(3);
        x.count(4);
        CHECK.due("after count", x.trace(), 0);
        x.copy(0);
        x.about(0, 0, 0);
        CHECK.due("after copy and about", x.trace(), 0);
        x.level(0, 0, 10);
        x.level(0, 0, -1);
        x.level(2, 0, 0);
        x.level(0, 4, 0);
        CHECK.due("after refused ones", x.trace(), 0);
    }

    private static void gaps() {
        CHECK.sentence("GAPS of a LINE: the facts v that no SPAN has");
        for (int from = 0; from <= 9; from++) {
            for (int to = from; to <= 9; to++) {
                for (int k = 0; k < 4; k++) {
                    MarkSheets x = Made.onlySpan(k % 3, k, from, to);
                    CHECK.due(told(k, from, to) + ": gaps", x.sense(0, 0, 0), ALL - bits(from, to));
                }
            }
        }
        CHECK.due("no gap", new MarkSheets().sense(0, 0, 0), 0);
    }

    private static void overlaps() {
        CHECK.sentence("OVERLAPS: those that two or more have");
        CHECK.due("spans side by side", Made.line(STRICT, 0, 2, 3, 5, 6, 8, 9, 9).sense(0, 0, 1), 0);
        CHECK.due("spans with an end in common", Made.line(STRICT, 0, 3, 3, 6, 6, 8, 8, 9).sense(0, 0, 1),
            bits(3, 3) | bits(6, 6) | bits(8, 8));
        CHECK.due("three have 4", Made.line(FILLED, 4, 4, 4, 4, 4, 4, 5, 9).sense(0, 0, 1), bits(4, 4));
        CHECK.due("four have 4", Made.line(KIND, 4, 4, 0, 4, 4, 9, 4, 4).sense(0, 0, 1), bits(4, 4));
        CHECK.due("four have all", Made.line(KIND, 0, 9, 0, 9, 0, 9, 0, 9).sense(0, 0, 1), ALL);
        CHECK.due("an empty span has none", Made.line(STRICT, 0, 9, 5, 4, 9, 0, 1, 0).sense(0, 0, 1), 0);
        for (int less = 0; less < 4; less++) {
            for (int more = less + 1; more < 4; more++) {
                MarkSheets x = Made.onlySpan(STRICT, less, 2, 6);
                x.span(0, 0, more, 5, 8);
                CHECK.due("levels " + less + ", " + more, x.sense(0, 0, 1), bits(5, 6));
                CHECK.due("gaps beside them", x.sense(0, 0, 0), ALL - bits(2, 8));
            }
        }
    }

    private static void tenBits() {
        CHECK.sentence("GAPS (what = 0), OVERLAPS (1) of a LINE as ten bits");
        for (int v = 0; v <= 9; v++) {
            MarkSheets x = Made.line(STRICT, v, v, v, v, 9, 0, 9, 0);
            CHECK.due("overlap at " + v, x.sense(0, 0, 1), 1 << v);
            CHECK.due("gaps beside " + v, x.sense(0, 0, 0), ALL - (1 << v));
        }
        CHECK.due("all ten", Made.line(STRICT, 9, 0, 9, 0, 9, 0, 9, 0).sense(0, 0, 0), ALL);
    }

    private static void sensibleHasNoGap() {
        CHECK.sentence("SENSIBLE, if it has neither (GAPS)");
        for (int kind = STRICT; kind <= KIND; kind++) {
            CHECK.due("no gap, kind " + kind, Made.line(kind, 0, 0, 1, 3, 4, 6, 7, 9).sensible(0, 0), 1);
            CHECK.due("9 is a gap, kind " + kind, Made.line(kind, 0, 0, 1, 3, 4, 6, 7, 8).sensible(0, 0), 0);
            CHECK.due("0 is a gap, kind " + kind, Made.line(kind, 9, 0, 1, 3, 4, 6, 7, 9).sensible(0, 0), 0);
            CHECK.due("4 is a gap, kind " + kind, Made.line(kind, 0, 0, 1, 3, 5, 6, 7, 9).sensible(0, 0), 0);
        }
    }

    private static void sensibleHasNoOverlap() {
        CHECK.sentence("SENSIBLE, if it has neither (OVERLAPS)");
        for (int kind = STRICT; kind <= KIND; kind++) {
            CHECK.due("two have 0, kind " + kind, Made.line(kind, 0, 0, 0, 3, 4, 6, 7, 9).sensible(0, 0), 0);
            CHECK.due("two have 6, kind " + kind, Made.line(kind, 0, 0, 1, 3, 4, 6, 6, 9).sensible(0, 0), 0);
            CHECK.due("two have 9, kind " + kind, Made.line(kind, 0, 2, 9, 9, 9, 8, 3, 9).sensible(0, 0), 0);
            CHECK.due("four have all, kind " + kind, Made.line(kind, 0, 9, 0, 9, 0, 9, 0, 9).sensible(0, 0), 0);
        }
    }

    private static void sensibleNeverFalls() {
        CHECK.sentence("of two facts the greater one never has a lesser LEVEL");
        for (int v = 1; v <= 9; v++) {
            for (int less = 0; less < 4; less++) {
                for (int more = less + 1; more < 4; more++) {
                    MarkSheets rises = Made.onlySpan(STRICT, less, 0, v - 1);
                    rises.span(0, 0, more, v, 9);
                    CHECK.due("from " + less + " to " + more + " at " + v, rises.sensible(0, 0), 1);
                    MarkSheets falls = Made.onlySpan(STRICT, more, 0, v - 1);
                    falls.span(0, 0, less, v, 9);
                    CHECK.due("from " + more + " to " + less + " at " + v, falls.sensible(0, 0), 0);
                }
            }
        }
        for (int k = 0; k < 4; k++) {
            CHECK.due("level " + k + " for all", Made.onlySpan(STRICT, k, 0, 9).sensible(0, 0), 1);
        }
    }

    private static void sensibleByItsKind() {
        CHECK.sentence("(by its KIND)");
        int[] lastFalls = {9, 0, 9, 0, 9, 9, 0, 8};
        CHECK.due("3 falls to 2 at 9, STRICT", Made.line(STRICT, lastFalls).sensible(0, 0), 0);
        CHECK.due("3 falls to 2 at 9, FILLED", Made.line(FILLED, lastFalls).sensible(0, 0), 0);
        CHECK.due("3 falls to 2 at 9, which KIND lifts", Made.line(KIND, lastFalls).sensible(0, 0), 1);
        CHECK.due("3 falls to 1 at 9, KIND", Made.line(KIND, 9, 0, 9, 9, 9, 0, 0, 8).sensible(0, 0), 0);
        CHECK.due("1 falls to 0, KIND lifts 4 and 9", Made.line(KIND, 5, 9, 0, 4, 9, 0, 9, 0).sensible(0, 0), 0);
        CHECK.due("2 falls to 1 at 9, KIND lifts 8 too", Made.line(KIND, 9, 0, 9, 9, 0, 8, 9, 0).sensible(0, 0), 0);
        CHECK.due("0 .. 8, 9, KIND", Made.line(KIND, 0, 8, 9, 9, 9, 0, 9, 0).sensible(0, 0), 1);
    }
}
