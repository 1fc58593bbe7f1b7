import java.io.IOException;
import java.lang.reflect.InvocationTargetException;
import java.lang.reflect.Method;
import java.lang.reflect.Modifier;
import java.nio.file.Files;
import java.nio.file.Path;
import java.util.Arrays;
import java.util.TreeSet;
import java.util.regex.Matcher;
import java.util.regex.Pattern;

/** The calls that README.md shows, made in their order on one object, answer as it says. */
final class ReadmeTest {

    /** A call, then behind the slashes its answer, which ends before a colon. */
    private static final Pattern SHOWN =
            Pattern.compile("atlas\\.(\\w+)\\(([-0-9, ]*)\\);\\s*// ([^:]*).*");

    private final AtlasFolder atlas = new AtlasFolder();
    private final TreeSet<String> made = new TreeSet<>();

    private ReadmeTest() {
    }

    static void run(Path readme) throws IOException {
        Check.noPromise();
        ReadmeTest test = new ReadmeTest();
        TreeSet<String> face = new TreeSet<>();
        for (Method method : AtlasFolder.class.getDeclaredMethods()) {
            if (Modifier.isPublic(method.getModifiers())) {
                face.add(method.getName());
            }
        }
        for (String line : Files.readAllLines(readme)) {
            if (line.startsWith("atlas.")) {
                test.shown(line);
            }
        }
        Check.due("the calls that README.md shows", face, test.made);
    }

    private void shown(String line) {
        Matcher parts = SHOWN.matcher(line);
        Check.isTrue("README.md tells the answer of " + line, parts.matches());
        if (!parts.matches()) {
            return;
        }
        String said = parts.group(3).strip();
        Object answer = answerOf(parts.group(1), argumentsIn(parts.group(2)));
        if (answer != null || said.startsWith("throws ")) {
            Check.due("README.md: " + line, said, String.valueOf(answer));
        }
        made.add(parts.group(1));
    }

    private static Object[] argumentsIn(String text) {
        return text.isBlank() ? new Object[0]
                : Arrays.stream(text.split(",")).map(each -> Integer.valueOf(each.strip())).toArray();
    }

    /** What the call answers or throws, null if it answers nothing. */
    private Object answerOf(String name, Object[] arguments) {
        Class<?>[] types = new Class<?>[arguments.length];
        Arrays.fill(types, int.class);
        try {
            return AtlasFolder.class.getMethod(name, types).invoke(atlas, arguments);
        } catch (InvocationTargetException thrown) {
            return "throws " + thrown.getCause().getClass().getSimpleName();
        } catch (ReflectiveOperationException missing) {
            return "no such call";
        }
    }
}
