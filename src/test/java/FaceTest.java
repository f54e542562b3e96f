import java.lang.reflect.Field;
import java.lang.reflect.Method;
import java.lang.reflect.Modifier;
import java.util.Set;
import java.util.TreeSet;

/** The public face of the document, and that nothing else can be seen from outside. */
public final class FaceTest {
    private static final String[] METHODS = {
        "int delegate(1)", "int presence(2)", "int quorum(1)", "int clause(1)", "int move(5)",
        "int decide(2)", "int speak(1)", "int divide(1)", "int report(1)", "int next(0)",
        "int pass(1)", "int open(0)", "int rule(5)", "int pending(2)", "int text(2)",
        "int question(2)", "int draft(1)", "int resolution(2)", "int replayed(1)", "int entry(2)",
        "int vote(1)", "int count(1)", "int store(3)", "int copy(3)", "int again(2)",
        "long element(2)", "int image(0)", "int undo(0)"};

    private FaceTest() { }

    public static void main(String[] args) {
        constants();
        methods();
        nothingElseIsSeen();
        noPrivateMethodBearsAPublicName();
        Checks.finish();
    }

    private static void due(String what, boolean holds) {
        Checks.due(what, holds ? 1 : 0, 1);
    }

    private static void constants() {
        Checks.due("NONE", AssemblyChair.NONE, -1);
        Checks.due("BAD", AssemblyChair.BAD, -2);
        Checks.due("STATE", AssemblyChair.STATE, -3);
        Checks.due("FULL", AssemblyChair.FULL, -4);
        Checks.due("NO", AssemblyChair.NO, Long.MIN_VALUE);
    }

    private static void methods() {
        Set<String> seen = new TreeSet<>();
        for (Method method : AssemblyChair.class.getDeclaredMethods()) {
            if (Modifier.isPublic(method.getModifiers())) {
                seen.add(method.getReturnType().getName() + " " + method.getName() + "("
                    + method.getParameterCount() + ")");
                for (Class<?> type : method.getParameterTypes()) {
                    due(method.getName() + " takes ints", type == int.class);
                }
            }
        }
        due("the methods are " + seen, seen.equals(Set.of(METHODS)));
        Checks.due("constructors", AssemblyChair.class.getConstructors().length, 1);
        Checks.due("its parameters", AssemblyChair.class.getConstructors()[0].getParameterCount(), 0);
    }

    private static void nothingElseIsSeen() {
        due("public and final", Modifier.isPublic(AssemblyChair.class.getModifiers())
            && Modifier.isFinal(AssemblyChair.class.getModifiers()));
        Set<String> constants = Set.of("NONE", "BAD", "STATE", "FULL", "NO");
        for (Field field : AssemblyChair.class.getDeclaredFields()) {
            boolean isConstant = constants.contains(field.getName());
            due(field.getName() + " is seen as it should be", isConstant
                ? Modifier.isPublic(field.getModifiers()) : Modifier.isPrivate(field.getModifiers()));
            due(field.getName() + " is final if static",
                !Modifier.isStatic(field.getModifiers()) || Modifier.isFinal(field.getModifiers()));
        }
        for (Method method : AssemblyChair.class.getDeclaredMethods()) {
            due(method.getName() + " is public or private", method.isSynthetic()
                || (method.getModifiers() & (Modifier.PUBLIC | Modifier.PRIVATE)) != 0);
        }
    }

    private static void noPrivateMethodBearsAPublicName() {
        Set<String> names = new TreeSet<>();
        for (Method method : AssemblyChair.class.getMethods()) {
            names.add(method.getName());
        }
        for (Method method : AssemblyChair.class.getDeclaredMethods()) {
            due(method.getName(), Modifier.isPublic(method.getModifiers())
                || !names.contains(method.getName()));
        }
        for (Class<?> inner : AssemblyChair.class.getDeclaredClasses()) {
            due(inner.getName() + " is static", Modifier.isStatic(inner.getModifiers()));
            for (Method method : inner.getDeclaredMethods()) {
                due(inner.getName() + "." + method.getName(), !names.contains(method.getName()));
            }
        }
    }
}
