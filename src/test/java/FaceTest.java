import java.lang.reflect.Constructor;
import java.lang.reflect.Field;
import java.lang.reflect.Method;
import java.lang.reflect.Modifier;
import java.util.Set;
import java.util.TreeSet;

/** The public face as the document gives it, with every type, and nothing beside it that could be seen. */
public final class FaceTest {
    private static final Set<String> CONSTANTS = Set.of(
        "public static final int MarkSheets.BAD", "public static final int MarkSheets.STATE",
        "public static final int MarkSheets.FULL", "public static final int MarkSheets.NONE");
    private static final Set<String> METHODS = Set.of(
        "public int MarkSheets.line(int,int,int,int,int)", "public int MarkSheets.span(int,int,int,int,int)",
        "public int MarkSheets.about(int,int,int)", "public int MarkSheets.level(int,int,int)",
        "public int MarkSheets.sense(int,int,int)", "public int MarkSheets.sensible(int,int)",
        "public int MarkSheets.work(int,int,int,int)", "public int MarkSheets.fact(int,int,int)",
        "public int MarkSheets.points(int,int)", "public int MarkSheets.mark(int,int,int)",
        "public int MarkSheets.given(int,int)", "public int MarkSheets.like(int,int,int)",
        "public int MarkSheets.parts(int,int)", "public int MarkSheets.anchor(int,int)",
        "public int MarkSheets.off(int,int)", "public int MarkSheets.fair(int,int)",
        "public int MarkSheets.drift(int,int)", "public int MarkSheets.moves(int)", "public int MarkSheets.copy(int)",
        "public int MarkSheets.count(int)", "public long MarkSheets.trace()");
    private static final Check CHECK = new Check();

    public static void main(String[] args) {
        constants();
        fields();
        constructor();
        methods();
        theClass();
        CHECK.end();
    }

    private static void constants() {
        CHECK.sentence("public static final int BAD = -100, STATE = -200, FULL = -300, NONE = -900");
        CHECK.due("BAD", MarkSheets.BAD, -100);
        CHECK.due("STATE", MarkSheets.STATE, -200);
        CHECK.due("FULL", MarkSheets.FULL, -300);
        CHECK.due("NONE", MarkSheets.NONE, -900);
    }

    private static void fields() {
        CHECK.sentence("every constant with its type, and no other field that is not private");
        Set<String> open = new TreeSet<>();
        for (Field field : MarkSheets.class.getDeclaredFields()) {
            if (!Modifier.isPrivate(field.getModifiers())) {
                open.add(field.toString());
            }
        }
        same(open, CONSTANTS);
    }

    private static void constructor() {
        CHECK.sentence("public MarkSheets()");
        Set<String> all = new TreeSet<>();
        for (Constructor<?> constructor : MarkSheets.class.getDeclaredConstructors()) {
            all.add(constructor.toString());
        }
        same(all, Set.of("public MarkSheets()"));
    }

    private static void methods() {
        CHECK.sentence("every method with its types, and no other method that is not private");
        Set<String> open = new TreeSet<>();
        for (Method method : MarkSheets.class.getDeclaredMethods()) {
            if (!Modifier.isPrivate(method.getModifiers())) {
                open.add(method.toString());
            }
        }
        same(open, METHODS);
    }

    private static void theClass() {
        CHECK.sentence("public final class MarkSheets");
        CHECK.due("its modifiers", MarkSheets.class.getModifiers(), Modifier.PUBLIC | Modifier.FINAL);
        CHECK.due("it extends Object alone", MarkSheets.class.getSuperclass() == Object.class ? 1 : 0, 1);
        CHECK.due("what it implements", MarkSheets.class.getInterfaces().length, 0);
    }

    private static void same(Set<String> got, Set<String> want) {
        for (String one : want) {
            CHECK.due("there is " + one, got.contains(one) ? 1 : 0, 1);
        }
        for (String one : got) {
            CHECK.due("the document has " + one, want.contains(one) ? 1 : 0, 1);
        }
    }
}
