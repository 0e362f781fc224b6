import java.io.IOException;
import java.lang.reflect.Constructor;
import java.lang.reflect.Field;
import java.lang.reflect.Method;
import java.lang.reflect.Modifier;
import java.nio.file.Files;
import java.nio.file.Path;
import java.util.Set;
import java.util.TreeSet;
import java.util.regex.Matcher;
import java.util.regex.Pattern;

/** The public face as the document gives it, and the rules of LANGUAGE.md that can be seen. */
public final class FaceTest {
    private static final Path SOURCE = Path.of("src/main/java/MarkSheets.java");
    private static final String FORBIDDEN =
        "import|package|throw|throws|try|catch|finally|synchronized|assert|protected|static\\s*\\{|->|::|\\w+Exact";
    private static final Set<String> FACE = Set.of(
        "int line 5", "int span 5", "int about 3", "int level 3", "int sense 3", "int sensible 2", "int work 4",
        "int fact 3", "int points 2", "int mark 3", "int given 2", "int like 3", "int parts 2", "int anchor 2",
        "int off 2", "int fair 2", "int drift 2", "int moves 1", "int copy 1", "int count 1", "long trace 0");
    private static final Check CHECK = new Check();

    public static void main(String[] args) throws IOException {
        constants();
        methods();
        classes();
        words();
        CHECK.end();
    }

    private static void constants() {
        CHECK.due("BAD", MarkSheets.BAD, -100);
        CHECK.due("STATE", MarkSheets.STATE, -200);
        CHECK.due("FULL", MarkSheets.FULL, -300);
        CHECK.due("NONE", MarkSheets.NONE, -900);
        Set<String> open = new TreeSet<>();
        for (Field field : MarkSheets.class.getDeclaredFields()) {
            if (!Modifier.isPrivate(field.getModifiers())) {
                open.add(field.getName());
            }
            if (Modifier.isStatic(field.getModifiers())) {
                same("final " + field.getName(), Modifier.isFinal(field.getModifiers()), true);
            }
        }
        same("open fields " + open, open.equals(Set.of("BAD", "STATE", "FULL", "NONE")), true);
    }

    private static void methods() {
        Set<String> open = new TreeSet<>();
        Set<String> openNames = new TreeSet<>();
        for (Method method : MarkSheets.class.getDeclaredMethods()) {
            if (!Modifier.isPrivate(method.getModifiers())) {
                same("public " + method, Modifier.isPublic(method.getModifiers()), true);
                open.add(method.getReturnType() + " " + method.getName() + " " + method.getParameterCount());
                openNames.add(method.getName());
            }
        }
        same("open methods " + open, open.equals(FACE), true);
        for (Method method : MarkSheets.class.getDeclaredMethods()) {
            boolean isPrivate = Modifier.isPrivate(method.getModifiers());
            same("its own name: " + method, isPrivate && openNames.contains(method.getName()), false);
        }
        Constructor<?>[] constructors = MarkSheets.class.getDeclaredConstructors();
        CHECK.due("constructors", constructors.length, 1);
        same("public constructor", Modifier.isPublic(constructors[0].getModifiers()), true);
        CHECK.due("constructor's parameters", constructors[0].getParameterCount(), 0);
    }

    private static void classes() {
        same("public final class", Modifier.isPublic(MarkSheets.class.getModifiers())
            && Modifier.isFinal(MarkSheets.class.getModifiers()), true);
        for (Class<?> inside : MarkSheets.class.getDeclaredClasses()) {
            same("static " + inside, Modifier.isStatic(inside.getModifiers()), true);
        }
    }

    private static void words() throws IOException {
        String text = Files.readString(SOURCE);
        String code = text.replaceAll("(?s)/\\*.*?\\*/", "").replaceAll("//[^\n]*", "");
        Matcher found = Pattern.compile("(?<!\\w)(" + FORBIDDEN + ")(?!\\w)").matcher(code);
        while (found.find()) {
            CHECK.due("the word " + found.group(), 1, 0);
        }
        same("code was read", code.contains("class MarkSheets"), true);
    }

    private static void same(String text, boolean got, boolean want) {
        CHECK.due(text, got ? 1 : 0, want ? 1 : 0);
    }
}
