import java.io.IOException;
import java.lang.reflect.Constructor;
import java.lang.reflect.Field;
import java.lang.reflect.Method;
import java.lang.reflect.Modifier;
import java.nio.file.Files;
import java.nio.file.Path;
import java.util.List;
import java.util.Set;
import java.util.TreeSet;

/** Rules of LANGUAGE.md that the program's text or its classes show; the first argument is the text's path, if told. */
public final class LanguageTest {
    private static final String[] NEVER = {"->", "::", "catch", "finally", "synchronized", "assert ", "Exact(", "static {",
        "import java.util.*", "System.out", "new Object", ".equals(", "hashCode", "toString", "HashMap", "\\u", "while (true)",
        "for (;;)", "package ", "protected ", "Random", "System.nano", "System.current"};

    public static void main(String[] args) throws IOException {
        List<String> lines = Files.readAllLines(Path.of(args.length > 0 ? args[0] : "src/main/java/Retroboard.java"));
        int start = -1;
        int classes = 0;
        for (int i = 0; i < lines.size(); i++) {
            String code = lines.get(i).replaceAll("//.*|/\\*.*|^ *\\* .*", "");
            for (String never : NEVER) {
                Due.same("line " + (i + 1) + " has " + never, false, code.contains(never));
            }
            for (int k = 0; k < lines.get(i).length(); k++) {
                Due.same("line " + (i + 1) + " is of plain signs", true, lines.get(i).charAt(k) < 127);
            }
            if (code.startsWith("import ")) {
                Due.same("the import", "import java.util.NoSuchElementException;", code);
            }
            classes += code.matches(".*\\bclass [A-Z].*\\{") ? 1 : 0;
            if (code.matches("( {4}| {8})[\\w<].*\\(.*\\).*\\{")) {
                start = i;
            }
            if (code.matches(" {4}\\}| {8}\\}") && start >= 0) {
                Due.same("lines of the method at " + (start + 1) + " are at most 60", true, i - start < 60);
                start = -1;
            }
        }
        Due.same("classes are at most 12", true, classes <= 12);
        Set<String> face = new TreeSet<>();
        for (Method m : Retroboard.class.getDeclaredMethods()) {
            if (Modifier.isPublic(m.getModifiers())) {
                face.add(m.getName());
            }
        }
        Due.same("names of the face", 39, face.size());
        keeps(Retroboard.class, face);
        for (Class<?> inside : Retroboard.class.getDeclaredClasses()) {
            keeps(inside, face);
            Due.same(inside + " is static", true, Modifier.isStatic(inside.getModifiers()));
        }
        Due.end("LanguageTest");
    }

    /** The fields and the parameters are few; what is static is final; no other method bears a name of the face. */
    private static void keeps(Class<?> c, Set<String> face) {
        int fields = 0;
        for (Field f : c.getDeclaredFields()) {
            boolean isStatic = Modifier.isStatic(f.getModifiers());
            fields += isStatic ? 0 : 1;
            Due.same(f + " is final, or an object's", true, !isStatic || Modifier.isFinal(f.getModifiers()));
        }
        Due.same(c + " has at most 20 fields", true, fields <= 20);
        for (Method m : c.getDeclaredMethods()) {
            boolean isFace = c == Retroboard.class && Modifier.isPublic(m.getModifiers());
            Due.same(m + " bears a name of its own", true, isFace || !face.contains(m.getName()));
            Due.same(m + " takes at most 7", true, m.getParameterCount() <= 7);
        }
        for (Constructor<?> made : c.getDeclaredConstructors()) {
            Due.same(made + " takes at most 7", true, made.getParameterCount() <= 7);
        }
    }
}
