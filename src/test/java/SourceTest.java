import java.io.IOException;
import java.nio.file.Files;
import java.nio.file.Path;
import java.util.List;

/** Some of LANGUAGE.md's rules that can be read off the text of the source. */
final class SourceTest {

    private static final List<String> OUT = List.of(
            "->", "::", "import ", "package ", "try ", "catch", "finally", "synchronized", "assert ",
            "Exact(", "instanceof", "static {", "record ", "System.", "volatile", "transient",
            "hashCode", "equals", "toString", "Object", "lambda");

    private SourceTest() {
    }

    static void run(Path source) throws IOException {
        Check.noPromise();
        boolean comment = false;
        int line = 0;
        for (String text : Files.readAllLines(source)) {
            line++;
            comment = comment || text.strip().startsWith("/*");
            if (!comment && !text.strip().startsWith("//")) {
                looked(line, text);
            }
            comment = comment && !text.strip().endsWith("*/");
            Check.isTrue("line " + line + " is not too long", text.length() <= 100);
        }
    }

    private static void looked(int line, String text) {
        for (String word : OUT) {
            Check.isTrue("line " + line + " without '" + word + "'", !text.contains(word));
        }
        if (text.contains("throw new ")) {
            Check.isTrue("line " + line + " throws as rule 6 says", text.strip().matches(
                    "throw new Il?(legalArgument|legalState|ndexOutOfBounds)Exception\\(\"[ -~]*\"\\);"));
        }
    }
}
