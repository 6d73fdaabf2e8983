import java.io.DataInputStream;
import java.io.IOException;
import java.io.InputStream;
import java.util.ArrayList;
import java.util.LinkedHashMap;
import java.util.List;
import java.util.Map;
import java.util.Set;
import java.util.TreeSet;

/** What a compiled class calls, makes, throws and divides by, read from its class file. */
final class Compiled {
    /** What one method does; names are told as Class.method, a class inside as Outer$Inner. */
    static final class Body {
        final String name;
        final boolean isStatic;
        final Set<String> calls = new TreeSet<>();
        final Set<String> makes = new TreeSet<>();
        int throwing;
        int catching;
        int casts;
        int looseDivisors;

        Body(String name, boolean isStatic) {
            this.name = name;
            this.isStatic = isStatic;
        }
    }

    private static final int WIDE = 196;
    private static final int TABLE = 170;
    private static final int LOOKUP = 171;

    final Map<String, Body> bodies = new LinkedHashMap<>();
    private final String self;
    private Object[] pool;

    private Compiled(Class<?> c) throws IOException {
        self = c.getName();
        String file = self + ".class";
        try (InputStream in = c.getResourceAsStream("/" + file)) {
            read(new DataInputStream(in));
        }
    }

    /** All methods of a class and of those inside it, by name; overloaded ones are put together. */
    static Map<String, Body> of(Class<?> outer) throws IOException {
        Map<String, Body> all = new LinkedHashMap<>(new Compiled(outer).bodies);
        for (Class<?> inside : outer.getDeclaredClasses()) {
            all.putAll(of(inside));
        }
        return all;
    }

    private void read(DataInputStream in) throws IOException {
        in.readInt();
        in.readInt();
        readPool(in);
        in.readUnsignedShort();
        in.readUnsignedShort();
        in.readUnsignedShort();
        for (int left = in.readUnsignedShort(); left > 0; left--) {
            in.readUnsignedShort();
        }
        for (int left = in.readUnsignedShort(); left > 0; left--) {
            readMember(in, false);
        }
        for (int left = in.readUnsignedShort(); left > 0; left--) {
            readMember(in, true);
        }
    }

    private void readPool(DataInputStream in) throws IOException {
        pool = new Object[in.readUnsignedShort()];
        for (int i = 1; i < pool.length; i++) {
            int tag = in.readUnsignedByte();
            switch (tag) {
                case 1:
                    pool[i] = in.readUTF();
                    break;
                case 3:
                case 4:
                    in.readInt();
                    break;
                case 5:
                case 6:
                    in.readLong();
                    i++;
                    break;
                case 7:
                case 8:
                case 16:
                case 19:
                case 20:
                    pool[i] = new int[] {in.readUnsignedShort()};
                    break;
                case 15:
                    in.readUnsignedByte();
                    in.readUnsignedShort();
                    break;
                default:
                    pool[i] = new int[] {in.readUnsignedShort(), in.readUnsignedShort()};
                    break;
            }
        }
    }

    private String text(int at, int part) {
        int to = ((int[]) pool[at])[part];
        return pool[to] instanceof String ? (String) pool[to] : text(to, 0);
    }

    private String member(int at) {
        String of = text(at, 0).replace('/', '.');
        int named = ((int[]) pool[at])[1];
        return of + "." + text(named, 0);
    }

    private void readMember(DataInputStream in, boolean isMethod) throws IOException {
        int access = in.readUnsignedShort();
        String name = self + "." + pool[in.readUnsignedShort()];
        in.readUnsignedShort();
        Body body = isMethod ? bodies.computeIfAbsent(name, n -> new Body(n, (access & 8) != 0)) : null;
        for (int left = in.readUnsignedShort(); left > 0; left--) {
            boolean isCode = "Code".equals(pool[in.readUnsignedShort()]);
            byte[] content = new byte[in.readInt()];
            in.readFully(content);
            if (isCode && isMethod) {
                readCode(body, content);
            }
        }
    }

    private void readCode(Body body, byte[] content) {
        int length = number(content, 4, 4);
        body.catching += number(content, 8 + length, 2);
        int before = 0;
        for (int at = 0; at < length; ) {
            int code = content[8 + at] & 255;
            note(body, content, 8 + at, code, before);
            before = code;
            at += size(content, at, code);
        }
    }

    private void note(Body body, byte[] content, int at, int code, int before) {
        boolean isNumber = before >= 2 && before <= 20;
        boolean isZero = before == 3 || before == 9;
        switch (code) {
            case 182:
            case 183:
            case 184:
            case 185:
                body.calls.add(member(number(content, at + 1, 2)));
                break;
            case 186:
                body.calls.add("invokedynamic");
                break;
            case 187:
                body.makes.add(text(number(content, at + 1, 2), 0).replace('/', '.'));
                break;
            case 188:
            case 189:
            case 197:
                body.makes.add("an array");
                break;
            case 191:
                body.throwing++;
                break;
            case 192:
                body.casts++;
                break;
            case 108:
            case 109:
            case 112:
            case 113:
                body.looseDivisors += isNumber && !isZero ? 0 : 1;
                break;
            default:
                break;
        }
    }

    /** How many bytes an instruction takes. */
    private static int size(byte[] content, int at, int code) {
        int operands = at + 4 - at % 4;
        if (code == TABLE) {
            int low = number(content, 8 + operands + 4, 4);
            int high = number(content, 8 + operands + 8, 4);
            return operands - at + 12 + 4 * (high - low + 1);
        }
        if (code == LOOKUP) {
            return operands - at + 8 + 8 * number(content, 8 + operands + 4, 4);
        }
        if (code == WIDE) {
            return (content[8 + at + 1] & 255) == 132 ? 6 : 4;
        }
        boolean isTwo = code == 16 || code == 18 || (code >= 21 && code <= 25) || (code >= 54 && code <= 58) || code == 169 || code == 188;
        boolean isThree = code == 17 || code == 19 || code == 20 || code == 132 || (code >= 153 && code <= 168)
            || (code >= 178 && code <= 184) || code == 187 || code == 189 || code == 192 || code == 193 || code == 198 || code == 199;
        boolean isFive = code == 185 || code == 186 || code == 200 || code == 201;
        return isTwo ? 2 : isThree ? 3 : isFive ? 5 : code == 197 ? 4 : 1;
    }

    private static int number(byte[] content, int at, int bytes) {
        int sum = 0;
        for (int i = 0; i < bytes; i++) {
            sum = sum << 8 | content[at + i] & 255;
        }
        return sum;
    }

    /** The longest chain of calls from a method on, each method once; calls of a method to itself aside. */
    static List<String> longest(Map<String, Body> all, String from, List<String> open) {
        List<String> best = new ArrayList<>();
        open.add(from);
        for (String to : all.get(from).calls) {
            if (all.containsKey(to) && !open.contains(to)) {
                List<String> chain = longest(all, to, open);
                best = chain.size() > best.size() ? chain : best;
            }
        }
        open.remove(from);
        best.add(0, from);
        return best;
    }
}
