import java.lang.reflect.Constructor;
import java.lang.reflect.Field;
import java.lang.reflect.Method;
import java.lang.reflect.Modifier;
import java.util.ArrayList;
import java.util.HashSet;
import java.util.List;
import java.util.Set;

/** The public face, and LANGUAGE.md's rule 1: the document's members and no others. */
public final class FaceTest {
    private static final Check CHECK = new Check("FaceTest");
    private static final String INDEX = "IndexOutOfBoundsException";
    private static final String ARGUMENT = "IllegalArgumentException";
    private static final String STATE = "IllegalStateException";

    public static void main(String[] args) {
        CHECK.that("public and final", Modifier.isPublic(RuleSteps.class.getModifiers())
                && Modifier.isFinal(RuleSteps.class.getModifiers()));
        publicMethods();
        hiddenMembers();
        innerClasses();
        CHECK.end();
    }

    private static Set<String> face() {
        return Set.of(
                "int leaf(int) " + ARGUMENT + " " + STATE,
                "int hole(int) " + ARGUMENT + " " + STATE,
                "int node(int int int) " + INDEX + " " + ARGUMENT + " " + STATE,
                "int rule(int int int) " + INDEX + " " + ARGUMENT,
                "boolean holds(int int) " + ARGUMENT,
                "boolean choose(int boolean) " + INDEX,
                "int rewrite(int int) " + INDEX + " " + ARGUMENT + " " + STATE,
                "int normal(int) " + INDEX + " " + ARGUMENT + " " + STATE,
                "boolean joins(int int) " + INDEX + " " + ARGUMENT + " " + STATE,
                "boolean spent() ",
                "int row(int int) " + INDEX + " " + ARGUMENT,
                "int steps() ",
                "int domain() ",
                "boolean lessens(int) " + INDEX,
                "boolean usable(int) " + INDEX,
                "boolean above(int int) " + INDEX,
                "int measure(int int) " + INDEX + " " + ARGUMENT,
                "int at(int int) " + INDEX,
                "int head(int) " + INDEX,
                "int count(int) ");
    }

    private static String names(Class<?>[] types) {
        List<String> names = new ArrayList<>();
        for (Class<?> type : types) {
            names.add(type.getSimpleName());
        }
        return String.join(" ", names);
    }

    private static void publicMethods() {
        Set<String> found = new HashSet<>();
        for (Method method : RuleSteps.class.getDeclaredMethods()) {
            if (Modifier.isPublic(method.getModifiers())) {
                found.add(method.getReturnType().getSimpleName() + " " + method.getName() + "("
                        + names(method.getParameterTypes()) + ") " + names(method.getExceptionTypes()));
            }
        }
        for (String method : face()) {
            CHECK.that("there is " + method, found.contains(method));
        }
        CHECK.due("public methods", found::size, face().size());
        Constructor<?>[] constructors = RuleSteps.class.getDeclaredConstructors();
        CHECK.due("constructors", () -> constructors.length, 1);
        CHECK.that("a public one", Modifier.isPublic(constructors[0].getModifiers()));
    }

    private static void hiddenMembers() {
        Set<String> open = new HashSet<>();
        for (Method method : RuleSteps.class.getDeclaredMethods()) {
            if (Modifier.isPublic(method.getModifiers())) {
                open.add(method.getName());
            }
        }
        for (Method method : RuleSteps.class.getDeclaredMethods()) {
            boolean hidden = Modifier.isPrivate(method.getModifiers()) && !open.contains(method.getName());
            CHECK.that(method + " is public or private with a name of its own",
                    hidden || Modifier.isPublic(method.getModifiers()));
        }
        for (Field field : RuleSteps.class.getDeclaredFields()) {
            CHECK.that(field + " is private", Modifier.isPrivate(field.getModifiers()));
            CHECK.that(field + " is final if static", !Modifier.isStatic(field.getModifiers())
                    || Modifier.isFinal(field.getModifiers()));
        }
    }

    private static void innerClasses() {
        for (Class<?> inner : RuleSteps.class.getDeclaredClasses()) {
            int modifiers = inner.getModifiers();
            CHECK.that(inner + " is static, and not open to all", Modifier.isStatic(modifiers)
                    && !Modifier.isPublic(modifiers) && !Modifier.isProtected(modifiers));
        }
    }
}
