import java.io.IOException;
import java.nio.file.Files;
import java.nio.file.Path;
import java.util.List;

/** Rules of LANGUAGE.md that the text of the program shows; the first argument is its path, if it is told. */
public final class LanguageTest {
    private static final String[] NEVER = {"->", "::", "catch", "finally", "synchronized", "assert ", "Exact(", "static {",
        "import java.util.*", "System.out", "new Object", ".equals(", "hashCode", "toString", "HashMap", "\\u", "while (true)",
        "for (;;)", "package ", "protected ", "Random", "System.nano", "System.current"};

    public static void main(String[] args) throws IOException {
        List<String> lines = Files.readAllLines(Path.of(args.length > 0 ? args[0] : "src/main/java/Retroboard.java"));
        int start = -1;
        int classes = 0;
        for (int i = 0; i < lines.size(); i++) {
            String code = lines.get(i).replaceAll("//.*|/\\*.*|^ *\\* .*", "");
            for (String never : NEVER) {
                Due.same("line " + (i + 1) + " has " + never, false, code.contains(never));
            }
            for (int k = 0; k < lines.get(i).length(); k++) {
                Due.same("line " + (i + 1) + " is of plain signs", true, lines.get(i).charAt(k) < 127);
            }
            if (code.startsWith("import ")) {
                Due.same("the import", "import java.util.NoSuchElementException;", code);
            }
            classes += code.matches(".*\\bclass [A-Z].*\\{") ? 1 : 0;
            if (code.matches("( {4}| {8})[\\w<].*\\(.*\\).*\\{")) {
                start = i;
            }
            if (code.matches(" {4}\\}| {8}\\}") && start >= 0) {
                Due.same("lines of the method at " + (start + 1) + " are at most 60", true, i - start < 60);
                start = -1;
            }
        }
        Due.same("classes are at most 12", true, classes <= 12);
        Due.end("LanguageTest");
    }
}
