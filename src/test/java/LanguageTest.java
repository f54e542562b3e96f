import java.io.IOException;
import java.lang.reflect.Constructor;
import java.lang.reflect.Field;
import java.lang.reflect.Method;
import java.lang.reflect.Modifier;
import java.nio.file.Files;
import java.nio.file.Path;
import java.util.ArrayList;
import java.util.List;
import java.util.Set;
import java.util.TreeSet;
import java.util.regex.Matcher;
import java.util.regex.Pattern;

/**
 * Those rules of ../shared/LANGUAGE.md that can be counted or looked up in the source. It allows
 * what the program uses, which is less than the rules allow: widen it when the program needs more.
 */
public final class LanguageTest {
    private static final Path SOURCE = Path.of("src/main/java/AssemblyChair.java");
    /** Of the library, the program uses these alone. */
    private static final Set<String> LIBRARY =
        Set.of("System.arraycopy", "Math.max", "Math.min", "Long.MIN_VALUE");
    /** The document wants no exception, so that none is thrown and none caught. */
    private static final Set<String> NOT_USED = Set.of("package", "import", "try", "catch", "throw",
        "throws", "finally", "synchronized", "assert", "protected", "volatile", "native");

    private LanguageTest() { }

    public static void main(String[] args) throws IOException {
        String source = Files.readString(SOURCE);
        String code = withoutComments(source);
        signsArePlain(source);
        wordsAreAllowed(code);
        libraryIsAllowed(code);
        methodsAreShort(code);
        for (Class<?> type : classes()) {
            staticFieldsAreConstants(type);
            sizesAreKept(type);
        }
        due("rule 11: at most twelve classes", classes().size() <= 12);
        Checks.finish();
    }

    private static void due(String what, boolean holds) {
        Checks.due(what, holds ? 1 : 0, 1);
    }

    private static List<Class<?>> classes() {
        List<Class<?>> all = new ArrayList<>(List.of(AssemblyChair.class.getDeclaredClasses()));
        all.add(AssemblyChair.class);
        return all;
    }

    private static String withoutComments(String source) {
        return source.replaceAll("(?s)/\\*.*?\\*/", "").replaceAll("//[^\n]*", "");
    }

    /** Rule 4: the signs of constants are 1 to 127; here, those of the whole file. */
    private static void signsArePlain(String source) {
        due("rule 4: plain signs", source.chars().allMatch(sign -> sign >= 1 && sign <= 127));
    }

    /** Rules 1, 2 and 6: no package, no lambda, no method reference, no exception, no assert. */
    private static void wordsAreAllowed(String code) {
        due("rule 2: no lambda", !code.contains("->"));
        due("rule 2: no method reference", !code.contains("::"));
        Set<String> words = new TreeSet<>(List.of(code.split("\\W+")));
        words.retainAll(NOT_USED);
        due("rules 1, 6: used are " + words, words.isEmpty());
    }

    /** Rules 3 and 4: every class that is named is the program's own, or listed. */
    private static void libraryIsAllowed(String code) {
        Set<String> own = new TreeSet<>();
        for (Class<?> type : classes()) {
            own.add(type.getSimpleName());
        }
        Matcher name = Pattern.compile("\\b([A-Z]\\w*[a-z]\\w*)(\\.\\w+)?").matcher(code);
        while (name.find()) {
            due("rule 4: " + name.group(),
                own.contains(name.group(1)) || LIBRARY.contains(name.group()));
        }
    }

    /** Rule 11: some sixty lines, from a head that ends with a brace to the one that closes it. */
    private static void methodsAreShort(String code) {
        String[] lines = code.split("\n");
        int methods = 0;
        for (int i = 0; i < lines.length; i++) {
            Matcher head = Pattern.compile("( {4}| {8})\\w.*\\) \\{").matcher(lines[i]);
            if (head.matches() && !lines[i].trim().startsWith("for")) {
                int end = i;
                while (end < lines.length && !lines[end].equals(head.group(1) + "}")) {
                    end++;
                }
                due("rule 11: " + lines[i].trim(), end < lines.length && end - i < 60);
                methods++;
            }
        }
        due("rule 11: methods were found", methods > 50);
    }

    /** Rule 5: static fields are final, and constants of int or long. */
    private static void staticFieldsAreConstants(Class<?> type) {
        for (Field field : type.getDeclaredFields()) {
            if (Modifier.isStatic(field.getModifiers())) {
                due("rule 5: " + field, Modifier.isFinal(field.getModifiers())
                    && (field.getType() == int.class || field.getType() == long.class));
            }
        }
    }

    /** Rule 11: at most seven parameters, some twenty fields beside the constants. */
    private static void sizesAreKept(Class<?> type) {
        for (Method method : type.getDeclaredMethods()) {
            due("rule 11: " + method, method.getParameterCount() <= 7);
        }
        for (Constructor<?> constructor : type.getDeclaredConstructors()) {
            due("rule 11: " + constructor, constructor.getParameterCount() <= 7);
        }
        int fields = 0;
        for (Field field : type.getDeclaredFields()) {
            fields += Modifier.isStatic(field.getModifiers()) ? 0 : 1;
        }
        due("rule 11: fields of " + type, fields <= 20);
    }
}
