import java.lang.reflect.Constructor;
import java.lang.reflect.Field;
import java.lang.reflect.Method;
import java.lang.reflect.Modifier;
import java.util.ArrayList;
import java.util.Arrays;
import java.util.List;
import java.util.Random;
import java.util.TreeSet;
import java.util.function.Supplier;

/** The public face, and that nothing but what the document names is ever thrown, whatever the arguments are. */
public final class FaceTest {
    private static final String[] FACE = {
        "int board int int: Argument", "int man char int int: IndexOutOfBounds Argument UnsupportedOperation State",
        "char lift int: IndexOutOfBounds NoSuchElement", "char at int: IndexOutOfBounds", "int turn int: Argument",
        "boolean condition char boolean: Argument", "int army char int int: Argument", "int moves :",
        "int moveAt int char: NoSuchElement Argument", "char make int: NoSuchElement", "int undo : NoSuchElement",
        "boolean isCheck int: Argument", "boolean isAim char: Argument",
        "int reach int boolean: IndexOutOfBounds NoSuchElement", "boolean isPure :",
        "int told int int: NoSuchElement Argument", "char sign int int int: NoSuchElement Argument IndexOutOfBounds",
        "int problem char int char: Argument", "int solutions : State UnsupportedOperation",
        "int solved int int char: State UnsupportedOperation NoSuchElement Argument", "int tries : State UnsupportedOperation",
        "int tried int boolean: State UnsupportedOperation NoSuchElement",
        "int duals int: State UnsupportedOperation NoSuchElement", "boolean isPossible :", "int lasts :",
        "int lastAt int char: NoSuchElement Argument", "int prove : NoSuchElement", "int array :",
        "int games int: Argument State", "int enter int int: Argument State", "boolean cook int: IndexOutOfBounds",
        "int like int int: IndexOutOfBounds", "int anticipated int int: IndexOutOfBounds Argument NoSuchElement",
        "int award int: NoSuchElement", "int withdraw int: Argument", "long checksum :", "float mobility :",
        "double meanPoints : NoSuchElement", "boolean isSound :"};

    public static void main(String[] args) {
        TreeSet<String> want = new TreeSet<>(Arrays.asList(FACE));
        TreeSet<String> got = new TreeSet<>();
        for (Method m : Retroboard.class.getDeclaredMethods()) {
            if (Modifier.isPublic(m.getModifiers())) {
                got.add(told(m));
            }
            Due.same(m + " is private or public", true, (m.getModifiers() & (Modifier.PUBLIC | Modifier.PRIVATE)) != 0 || m.isSynthetic());
        }
        Due.same("the methods", want.toString(), got.toString());
        for (Constructor<?> c : Retroboard.class.getDeclaredConstructors()) {
            Due.same("the constructor", "public Retroboard()", c.toString());
        }
        for (Field f : Retroboard.class.getDeclaredFields()) {
            Due.same(f + " is private", true, Modifier.isPrivate(f.getModifiers()));
        }
        Due.same("the class is public and final", Modifier.PUBLIC | Modifier.FINAL, Retroboard.class.getModifiers());
        for (Class<?> c : Retroboard.class.getDeclaredClasses()) {
            Due.same(c + " is private or package-visible", 0, c.getModifiers() & (Modifier.PUBLIC | Modifier.PROTECTED));
        }
        for (int seed = 0; seed < 400; seed++) {
            callAnything(seed);
        }
        Due.end("FaceTest");
    }

    private static String told(Method m) {
        StringBuilder s = new StringBuilder(m.getReturnType() + " " + m.getName());
        for (Class<?> p : m.getParameterTypes()) {
            s.append(' ').append(p);
        }
        s.append(m.getParameterCount() == 0 ? " :" : ":");
        for (Class<?> e : m.getExceptionTypes()) {
            s.append(' ').append(e.getSimpleName().replaceAll("Exception|Illegal", ""));
        }
        return s.toString();
    }

    /** Calls with any arguments throw what the face lists, by a throw statement of the class itself, or nothing. */
    private static void callAnything(int seed) {
        Random r = new Random(seed);
        Retroboard x = new Retroboard();
        List<Method> methods = new ArrayList<>();
        for (Method m : Retroboard.class.getDeclaredMethods()) {
            if (Modifier.isPublic(m.getModifiers())) {
                methods.add(m);
            }
        }
        methods.sort((a, b) -> a.getName().compareTo(b.getName()));
        for (int i = 0; i < 512; i++) {
            Method m = r.nextInt(3) == 0 ? methods.get(index(methods, r.nextBoolean() ? "man" : "make")) : methods.get(r.nextInt(methods.size()));
            if (m.getName().equals("board") && r.nextInt(4) > 0) {
                continue;
            }
            Object[] args = new Object[m.getParameterCount()];
            for (int k = 0; k < args.length; k++) {
                args[k] = any(m.getParameterTypes()[k], r);
            }
            String fault = fault(m, x, args);
            Due.same("seed " + seed + ", " + m.getName() + Arrays.toString(args), "", fault);
        }
    }

    private static int index(List<Method> methods, String name) {
        for (int i = 0; i < methods.size(); i++) {
            if (methods.get(i).getName().equals(name)) {
                return i;
            }
        }
        return 0;
    }

    private static Object any(Class<?> type, Random r) {
        if (type == boolean.class) {
            return r.nextBoolean();
        }
        if (type == char.class) {
            return r.nextInt(12) == 0 ? (char) r.nextInt(65536) : "kqrbnigcpmgp#=dshzftxekc#=".charAt(r.nextInt(26));
        }
        int[] bounds = {Integer.MIN_VALUE, Integer.MAX_VALUE, -1, 36, 37, 255, 256, 64, 10, 12};
        return r.nextInt(12) == 0 ? bounds[r.nextInt(bounds.length)] : r.nextInt(r.nextBoolean() ? 3 : 36);
    }

    private static String fault(Method m, Retroboard x, Object[] args) {
        try {
            m.invoke(x, args);
            return "";
        } catch (java.lang.reflect.InvocationTargetException e) {
            Throwable t = e.getCause();
            boolean isListed = Arrays.asList(m.getExceptionTypes()).contains(t.getClass());
            return isListed && t.getStackTrace()[0].getClassName().startsWith("Retroboard") ? "" : t.toString();
        } catch (IllegalAccessException e) {
            return e.toString();
        }
    }
}
