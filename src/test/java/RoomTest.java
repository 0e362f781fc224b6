import java.lang.management.ManagementFactory;
import java.lang.reflect.Array;
import java.lang.reflect.Field;
import java.lang.reflect.Modifier;
import java.util.ArrayDeque;
import java.util.Collections;
import java.util.Deque;
import java.util.IdentityHashMap;
import java.util.Set;

/** Rule 12: what a run makes is small, since all its objects live in one room. */
public final class RoomTest {
    private static final int ROUNDS = 20;
    private static final int LEAST_OBJECT = 16;
    private static final com.sun.management.ThreadMXBean THREADS =
        (com.sun.management.ThreadMXBean) ManagementFactory.getThreadMXBean();
    private static final Check CHECK = new Check();

    private int objects = 0;
    private int places = 0;

    /** Counts all objects and arrays that an object leads to, and their fields and elements. */
    private RoomTest(Object first) throws IllegalAccessException {
        Set<Object> seen = Collections.newSetFromMap(new IdentityHashMap<>());
        Deque<Object> open = new ArrayDeque<>();
        open.add(first);
        while (!open.isEmpty()) {
            Object at = open.pop();
            if (seen.add(at)) {
                objects++;
                count(at, open);
            }
        }
    }

    private void count(Object at, Deque<Object> open) throws IllegalAccessException {
        if (at.getClass().isArray()) {
            places += Array.getLength(at);
            for (int i = 0; i < Array.getLength(at); i++) {
                follow(at.getClass().getComponentType(), Array.get(at, i), open);
            }
            return;
        }
        for (Field field : at.getClass().getDeclaredFields()) {
            if (!Modifier.isStatic(field.getModifiers())) {
                places++;
                field.setAccessible(true);
                follow(field.getType(), field.get(at), open);
            }
        }
    }

    private static void follow(Class<?> type, Object next, Deque<Object> open) {
        if (!type.isPrimitive() && next != null) {
            open.add(next);
        }
    }

    public static void main(String[] args) throws IllegalAccessException {
        keepsLittle();
        makesNothingMore();
        CHECK.end();
    }

    private static void within(String text, int got, int most) {
        CHECK.due(text + ": " + got + " of " + most + ", beyond", Math.max(0, got - most), 0);
    }

    private static void keepsLittle() throws IllegalAccessException {
        CHECK.sentence("what is kept is counted, and refused beyond the document's limit");
        RoomTest bare = new RoomTest(new MarkSheets());
        within("objects of a new one", bare.objects, 40);
        within("places of a new one", bare.places, 200);
        MarkSheets x = Made.works(12);
        RoomTest full = new RoomTest(x);
        within("objects with twelve works", full.objects, 80);
        within("places with twelve works", full.places, 350);
        for (int round = 0; round < ROUNDS; round++) {
            x.work(round % 10, 0, 0, 0);
            ask(x, round);
        }
        RoomTest used = new RoomTest(x);
        CHECK.due("objects after many calls", used.objects, full.objects);
        CHECK.due("places after many calls", used.places, full.places);
    }

    /** Every call but work(), each with numbers that it takes. */
    private static void ask(MarkSheets x, int round) {
        x.line(round % 2, round % 4, round % 3, round % 4, round % 10);
        x.span(round % 2, round % 4, round % 4, round % 10, 9);
        x.about(round % 2, round % 4, round % 11);
        x.level(round % 2, round % 4, round % 10);
        x.sense(round % 2, round % 4, round % 2);
        x.sensible(round % 2, round % 4);
        x.fact(round % 12, round % 4, round % 10);
        x.points(round % 2, round % 12);
        x.mark(round % 3, round % 12, round % 4);
        x.mark((round + 1) % 3, round % 12, (round + 1) % 4);
        x.given(round % 3, round % 12);
        x.like(0, 1, round % 3);
        x.parts(round % 3, (round + 1) % 3);
        x.anchor(round % 12, round % 4);
        x.off(round % 3, round % 3);
        x.fair(round % 3, round % 12);
        x.drift(round % 3, 1);
        x.moves(round % 2);
        x.copy(round % 3);
        x.count(round % 5);
        x.trace();
    }

    private static long madeBy(MarkSheets x) {
        long before = THREADS.getThreadAllocatedBytes(Thread.currentThread().getId());
        for (int round = 0; round < ROUNDS; round++) {
            ask(x, round);
        }
        return THREADS.getThreadAllocatedBytes(Thread.currentThread().getId()) - before;
    }

    private static void makesNothingMore() {
        CHECK.sentence("What a run makes is counted: keep it small (no call but work() makes anything)");
        // The first time, the machine may make things of its own, as when it loads a class.
        madeBy(Made.works(12));
        within("bytes made by " + ROUNDS + " rounds", (int) madeBy(Made.works(12)), ROUNDS * LEAST_OBJECT - 1);
    }
}
