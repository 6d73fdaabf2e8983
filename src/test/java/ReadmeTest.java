import java.io.IOException;
import java.lang.reflect.Method;
import java.lang.reflect.Modifier;
import java.nio.file.Files;
import java.nio.file.Path;
import java.util.regex.Matcher;
import java.util.regex.Pattern;

/** The calls in README.md answer what stands behind them, and each call of the face is named there. */
public final class ReadmeTest {
    private static final Pattern CALL = Pattern.compile("x\\.(\\w+)\\((.*)\\);\\s+// ([^:]+):.*");

    public static void main(String[] args) throws Exception {
        String page = Files.readString(Path.of(args.length > 0 ? args[0] : "README.md"));
        Retroboard x = new Retroboard();
        int calls = 0;
        for (String line : page.split("\n")) {
            Matcher call = CALL.matcher(line);
            if (call.matches()) {
                Due.same(line, call.group(3), answer(x, call.group(1), call.group(2)));
                calls++;
            } else {
                Due.same(line + " is no call without its answer", false, line.startsWith("x."));
            }
        }
        Due.same("calls are shown", true, calls >= 10);
        for (Method m : Retroboard.class.getDeclaredMethods()) {
            if (Modifier.isPublic(m.getModifiers())) {
                Due.same(m.getName() + " is named", true, page.contains("`" + m.getName() + "`"));
            }
        }
        Due.end("ReadmeTest");
    }

    private static String answer(Retroboard x, String name, String written) throws ReflectiveOperationException, IOException {
        String[] parts = written.isEmpty() ? new String[0] : written.split(", ");
        Object[] values = new Object[parts.length];
        for (int i = 0; i < parts.length; i++) {
            boolean isSign = parts[i].startsWith("'");
            values[i] = isSign ? (Object) parts[i].charAt(1) : (Object) Integer.valueOf(parts[i]);
        }
        for (Method m : Retroboard.class.getDeclaredMethods()) {
            if (m.getName().equals(name) && m.getParameterCount() == parts.length) {
                Object answer = m.invoke(x, values);
                return answer instanceof Character ? "'" + answer + "'" : String.valueOf(answer);
            }
        }
        return "no such call";
    }
}
