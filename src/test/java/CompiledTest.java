import java.io.IOException;
import java.util.ArrayList;
import java.util.List;
import java.util.Map;
import java.util.Set;

/** Rules of LANGUAGE.md that the compiled program shows, each told by its number. */
public final class CompiledTest {
    private static final Set<String> LIBRARY = Set.of("java.lang.Object.<init>", "java.lang.String.charAt", "java.lang.String.indexOf",
        "java.lang.Math.abs", "java.lang.Math.min", "java.lang.Long.bitCount", "java.lang.System.arraycopy");
    private static final Set<String> EXCEPTIONS = Set.of("java.lang.IllegalStateException", "java.lang.IllegalArgumentException",
        "java.lang.IndexOutOfBoundsException", "java.lang.UnsupportedOperationException", "java.util.NoSuchElementException");
    private static final int DEEPEST = 8;

    public static void main(String[] args) throws IOException {
        Map<String, Compiled.Body> all = Compiled.of(Retroboard.class);
        Due.same("methods are found", true, all.size() > 100 && all.containsKey("Retroboard$Place.reachers"));
        Due.same("a division is seen", true, all.get("Retroboard.reach").looseDivisors == 0 && all.get("Retroboard.make").throwing == 0);
        for (Compiled.Body body : all.values()) {
            calls(body, all);
            makes(body);
            Due.same("rule 6: catches of " + body.name, 0, body.catching);
            Due.same("rule 7: divisors of " + body.name + " that are no written numbers", 0, body.looseDivisors);
            Due.same("rule 7: casts of " + body.name, 0, body.casts);
            List<String> chain = Compiled.longest(all, body.name, new ArrayList<>());
            Due.same("rule 11: deep are the calls " + chain, true, chain.size() <= DEEPEST);
        }
        Due.end("CompiledTest");
    }

    private static void calls(Compiled.Body body, Map<String, Compiled.Body> all) {
        for (String called : body.calls) {
            boolean isExceptions = called.endsWith(".<init>") && EXCEPTIONS.contains(called.substring(0, called.length() - 7));
            boolean isOwn = all.containsKey(called);
            Due.same("rule 4: " + body.name + " calls " + called, true, isOwn || isExceptions || LIBRARY.contains(called));
            Due.same("rule 8: " + body.name + " is static, if it calls itself", true, !called.equals(body.name) || body.isStatic);
            boolean isRound = isOwn && !called.equals(body.name) && leads(all, called, body.name, all.size());
            Due.same("rule 8: " + body.name + " comes back to itself by " + called, false, isRound);
        }
    }

    /** Whether calls of a method lead to another one, by so many steps at most. */
    private static boolean leads(Map<String, Compiled.Body> all, String from, String to, int steps) {
        boolean is = from.equals(to);
        for (String next : all.get(from).calls) {
            is = is || (steps > 0 && all.containsKey(next) && !next.equals(from) && leads(all, next, to, steps - 1));
        }
        return is;
    }

    /** Rows are made in constructors; else, nothing is made but the exception that is thrown. */
    private static void makes(Compiled.Body body) {
        boolean isConstructor = body.name.endsWith(".<init>");
        boolean isConstants = body.name.endsWith(".<clinit>");
        int thrown = 0;
        for (String made : body.makes) {
            boolean isException = EXCEPTIONS.contains(made);
            thrown += isException ? 1 : 0;
            boolean isOwn = made.startsWith("Retroboard$");
            boolean isArray = made.equals("an array");
            boolean isFit = isConstructor ? isOwn || isArray : isConstants ? isArray : isException;
            Due.same("rule 12: " + body.name + " makes " + made, true, isFit);
        }
        Due.same("rule 6: " + body.name + " throws what it makes", true, thrown == 0 ? body.throwing == 0 : body.throwing >= thrown);
        Due.same("rule 5: " + body.name + " lays constants by no call", true, !isConstants || body.calls.isEmpty());
    }
}
