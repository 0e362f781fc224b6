import com.sun.source.tree.Tree;
import java.io.IOException;
import java.nio.file.Path;
import java.util.HashSet;
import java.util.List;
import java.util.Set;
import javax.lang.model.element.Element;
import javax.lang.model.element.ElementKind;
import javax.lang.model.element.ExecutableElement;
import javax.lang.model.element.Modifier;
import javax.lang.model.element.NestingKind;
import javax.lang.model.element.TypeElement;
import javax.lang.model.element.VariableElement;

/**
 * The rules of LANGUAGE.md, held against the text of the class; FaceTest, CallsTest and RoomTest have the rest.
 * The class needs no texts, lists, imports and casts, so that they are left out here although the rules allow them.
 */
public final class LanguageTest {
    private static final Path SOURCE = Path.of("src/main/java/MarkSheets.java");
    private static final Check CHECK = new Check();

    private static final Set<String> NUMBERS =
        Set.of("int", "long", "short", "byte", "char", "boolean", "double", "float");
    private static final Set<String> TEXTS = Set.of("java.lang.String", "java.lang.StringBuilder");
    private static final Set<String> CONSTANTS =
        Set.of("int", "long", "boolean", "char", "java.lang.String", "int[]", "long[]", "char[]", "byte[]");
    private static final Set<String> FUNCTIONS = Set.of("compare", "max", "min", "abs", "bitCount", "floorDiv",
        "floorMod", "signum", "numberOfTrailingZeros", "numberOfLeadingZeros", "highestOneBit", "lowestOneBit");
    private static final Set<String> LIBRARY = Set.of("java.lang.Object.<init>", "java.lang.System.arraycopy",
        "java.util.Arrays.copyOf", "java.util.Arrays.copyOfRange", "java.util.Arrays.fill", "java.lang.Object.clone",
        "Array.clone");

    private final Reading text;

    private LanguageTest(Reading text) {
        this.text = text;
    }

    public static void main(String[] args) throws IOException {
        LanguageTest test = new LanguageTest(Reading.of(SOURCE));
        test.oneClass();
        test.privateNames();
        test.classesInside();
        test.types();
        test.library();
        test.staticFields();
        test.wordsLeftOut();
        test.comparisons();
        test.recursion();
        test.loopsEnd();
        test.textsAreNotAdded();
        test.sizes();
        test.depth();
        test.constructors();
        CHECK.end();
    }

    private static void holds(String what, boolean holds) {
        CHECK.due(what, holds ? 1 : 0, 1);
    }

    private static boolean isIn(Element element, Modifier modifier) {
        return element.getModifiers().contains(modifier);
    }

    private void oneClass() {
        CHECK.sentence("one file .. without a package line .. one public class");
        holds("no package", text.unit.getPackageName() == null);
        CHECK.due("classes of the file", text.unit.getTypeDecls().size(), 1);
        TypeElement face = text.classes.get(0);
        holds("its name", face.getQualifiedName().contentEquals("MarkSheets"));
        holds("public", isIn(face, Modifier.PUBLIC));
        holds("final", isIn(face, Modifier.FINAL));
    }

    private void privateNames() {
        CHECK.sentence("rule 1: No private method bears the name of a public one");
        Set<String> open = new HashSet<>();
        for (ExecutableElement method : text.calls.keySet()) {
            if (isIn(method, Modifier.PUBLIC) && method.getKind() == ElementKind.METHOD) {
                open.add(method.getSimpleName().toString());
            }
        }
        CHECK.due("public methods", open.size(), 21);
        for (ExecutableElement method : text.calls.keySet()) {
            boolean bears = isIn(method, Modifier.PRIVATE) && open.contains(method.getSimpleName().toString());
            holds("the name of " + method, !bears);
        }
    }

    private void classesInside() {
        CHECK.sentence("rules 1, 2: classes inside are private or package-visible and static, none local or nameless");
        for (TypeElement inside : text.classes.subList(1, text.classes.size())) {
            holds(inside + " is a member", inside.getNestingKind() == NestingKind.MEMBER);
            holds(inside + " is static", isIn(inside, Modifier.STATIC));
            holds(inside + " is not open", !isIn(inside, Modifier.PUBLIC) && !isIn(inside, Modifier.PROTECTED));
            holds(inside + " extends nothing of the library",
                inside.getSuperclass().toString().equals("java.lang.Object")
                    || Reading.isOwn(inside.getSuperclass().toString()));
        }
    }

    private static boolean isAllowed(String type) {
        String single = type.replace("[]", "");
        int dimensions = (type.length() - single.length()) / 2;
        boolean isNumber = NUMBERS.contains(single);
        return isNumber && dimensions <= 2 || Reading.isOwn(single) && dimensions <= 1;
    }

    private void types() {
        CHECK.sentence("rule 3: types");
        for (VariableElement variable : text.variables) {
            holds(variable + " is of " + variable.asType(), isAllowed(variable.asType().toString()));
        }
        for (ExecutableElement method : text.calls.keySet()) {
            String answer = method.getReturnType().toString();
            holds(method + " answers " + answer, answer.equals("void") || isAllowed(answer));
        }
        for (String made : text.typesMade) {
            holds("new " + made, isAllowed(made));
        }
    }

    private void library() {
        CHECK.sentence("rules 4, 13: the library, only what stands here");
        for (String called : text.calledElsewhere) {
            int dot = called.lastIndexOf('.');
            String owner = called.substring(0, dot);
            boolean isFunction = Set.of("java.lang.Math", "java.lang.Integer", "java.lang.Long").contains(owner)
                && FUNCTIONS.contains(called.substring(dot + 1));
            holds(called, isFunction || LIBRARY.contains(called));
        }
        CHECK.due("imports", text.unit.getImports().size(), 0);
    }

    private void staticFields() {
        CHECK.sentence("rule 5: Static fields are final: constants; no static initialiser block");
        CHECK.due("initialiser blocks", text.initialisers, 0);
        for (VariableElement field : text.variables) {
            if (field.getKind() == ElementKind.FIELD && isIn(field, Modifier.STATIC)) {
                holds(field + " is final", isIn(field, Modifier.FINAL));
                holds(field + " is of " + field.asType(), CONSTANTS.contains(field.asType().toString()));
            }
        }
    }

    private void wordsLeftOut() {
        CHECK.sentence("rules 2, 6: no lambda, method reference, throw, try, catch, synchronized, assert");
        List<Tree.Kind> leftOut = List.of(Tree.Kind.LAMBDA_EXPRESSION, Tree.Kind.MEMBER_REFERENCE, Tree.Kind.THROW,
            Tree.Kind.TRY, Tree.Kind.CATCH, Tree.Kind.SYNCHRONIZED, Tree.Kind.ASSERT, Tree.Kind.TYPE_CAST);
        for (Tree.Kind kind : leftOut) {
            holds("there is no " + kind, !text.kinds.contains(kind));
        }
        for (ExecutableElement method : text.calls.keySet()) {
            holds(method + " names nothing that it throws", method.getThrownTypes().isEmpty());
            holds("rule 1: " + method + " is not protected", !isIn(method, Modifier.PROTECTED));
            holds("rule 1: " + method + " is not synchronized", !isIn(method, Modifier.SYNCHRONIZED));
            boolean isObjects = Set.of("equals", "hashCode", "toString").contains(method.getSimpleName().toString());
            holds("rule 6: " + method + " is none of an object's own", !isObjects);
        }
    }

    private void comparisons() {
        CHECK.sentence("rule 6: == and != never between two Strings or two Integers");
        for (Reading.Pair pair : text.pairs) {
            if (pair.kind() == Tree.Kind.EQUAL_TO || pair.kind() == Tree.Kind.NOT_EQUAL_TO) {
                boolean isText = pair.left().startsWith("java.lang.") || pair.right().startsWith("java.lang.");
                holds(pair.toString(), !isText);
            }
        }
    }

    private void recursion() {
        CHECK.sentence("rule 8: a private static method that calls itself");
        for (ExecutableElement method : text.calls.keySet()) {
            boolean isItsOwn = text.calls.get(method).contains(method);
            boolean isPrivateStatic = isIn(method, Modifier.PRIVATE) && isIn(method, Modifier.STATIC);
            holds(method + " calls itself", !isItsOwn || isPrivateStatic);
        }
    }

    private void loopsEnd() {
        CHECK.sentence("rule 9: a counter against a bound");
        for (String condition : text.loopConditions) {
            holds("a loop while " + condition, condition.matches("(?s).*[<>].*"));
        }
    }

    private void textsAreNotAdded() {
        CHECK.sentence("rule 10: joining texts by StringBuilder (not by +)");
        for (Reading.Pair pair : text.pairs) {
            if (pair.kind() == Tree.Kind.PLUS) {
                holds(pair.toString(), !TEXTS.contains(pair.left()) && !TEXTS.contains(pair.right()));
            }
        }
    }

    private void sizes() {
        CHECK.sentence("rule 11: seven parameters, sixty lines, twelve classes, twenty fields");
        for (ExecutableElement method : text.calls.keySet()) {
            holds("parameters of " + method, method.getParameters().size() <= 7);
            holds("lines of " + method, text.lengths.get(method) <= 60);
        }
        holds("classes", text.classes.size() <= 12);
        for (TypeElement type : text.classes) {
            int fields = 0;
            for (VariableElement field : text.variables) {
                boolean isField = field.getKind() == ElementKind.FIELD && !isIn(field, Modifier.STATIC);
                fields += isField && field.getEnclosingElement().equals(type) ? 1 : 0;
            }
            holds("fields of " + type, fields <= 20);
        }
    }

    /** How many calls stand open at once from here, a method that calls itself counted once; -1 in a ring of several. */
    private int deepest(ExecutableElement method, Set<ExecutableElement> open) {
        int most = 0;
        open.add(method);
        for (ExecutableElement next : text.calls.getOrDefault(method, Set.of())) {
            if (next.equals(method)) {
                continue;
            }
            int below = open.contains(next) ? -1 : deepest(next, open);
            if (below < 0) {
                return -1;
            }
            most = Math.max(most, below);
        }
        open.remove(method);
        return most + 1;
    }

    private void depth() {
        CHECK.sentence("rule 11: calls that are no recursion go at most eight deep");
        for (ExecutableElement method : text.calls.keySet()) {
            int deepest = deepest(method, new HashSet<>());
            holds(method + " goes " + deepest + " deep", deepest > 0 && deepest <= 8);
        }
    }

    private void constructors() {
        CHECK.sentence("rule 12: A constructor calls no method that another class could override");
        for (ExecutableElement method : text.calls.keySet()) {
            if (method.getKind() == ElementKind.CONSTRUCTOR) {
                for (ExecutableElement next : text.calls.get(method)) {
                    boolean isFixed = next.getKind() == ElementKind.CONSTRUCTOR || isIn(next, Modifier.PRIVATE)
                        || isIn(next, Modifier.STATIC) || isIn(next.getEnclosingElement(), Modifier.FINAL);
                    holds(method + " calls " + next, isFixed);
                }
                holds(method + " is read", true);
            }
        }
    }
}
