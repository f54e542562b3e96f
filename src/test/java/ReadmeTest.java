import java.io.IOException;
import java.nio.file.Files;
import java.nio.file.Path;
import java.util.regex.Matcher;
import java.util.regex.Pattern;

/** README.md: its example answers what it says, and it names every call of the face. */
public final class ReadmeTest {
    private static final Pattern CALL =
        Pattern.compile("(?m)^chair\\.(\\w+)\\(([-\\d, ]*)\\);\\s*// (-?\\d+)\\b");

    private ReadmeTest() { }

    public static void main(String[] args) throws IOException {
        String readme = Files.readString(Path.of("README.md"));
        exampleAnswersWhatItSays(readme);
        everyCallIsNamed(readme);
        Checks.finish();
    }

    private static void exampleAnswersWhatItSays(String readme) {
        AssemblyChair chair = new AssemblyChair();
        Matcher call = CALL.matcher(readme);
        int calls = 0;
        while (call.find()) {
            String told = call.group(1) + " " + call.group(2).replace(",", " ");
            Checks.due(told, Scenes.answer(chair, told), Long.parseLong(call.group(3)));
            calls++;
        }
        long lines = readme.lines().filter(line -> line.startsWith("chair.")).count();
        Checks.due("calls with an answer in README.md", calls, lines);
        Checks.due("README.md has an example", calls > 0 ? 1 : 0, 1);
    }

    private static void everyCallIsNamed(String readme) {
        for (var method : AssemblyChair.class.getDeclaredMethods()) {
            if (java.lang.reflect.Modifier.isPublic(method.getModifiers())) {
                Checks.due("README.md names " + method.getName(),
                    readme.contains("`" + method.getName() + "`") ? 1 : 0, 1);
            }
        }
    }
}
