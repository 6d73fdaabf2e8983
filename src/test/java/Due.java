import java.util.function.Supplier;

/** What tests count, and what they ask again and again. */
final class Due {
    static final Class<?> BOUNDS = IndexOutOfBoundsException.class;
    static final Class<?> ARGUMENT = IllegalArgumentException.class;
    static final Class<?> UNSUPPORTED = UnsupportedOperationException.class;
    static final Class<?> STATE = IllegalStateException.class;
    static final Class<?> MISSING = java.util.NoSuchElementException.class;

    private static int wrong = 0;
    private static int asked = 0;

    private Due() {
    }

    static void same(String what, Object want, Object got) {
        asked++;
        if (!want.equals(got)) {
            wrong++;
            System.out.println(what + " answered " + got + ", due is " + want);
        }
    }

    /** The call throws just this exception, and nothing that can be asked for is another one behind it. */
    static void thrown(String what, Class<?> want, Retroboard x, Supplier<Object> call) {
        String before = print(x);
        String got;
        try {
            got = "answered " + call.get();
        } catch (RuntimeException e) {
            got = e.getClass() == want ? "" : "threw " + e.getClass();
        }
        asked++;
        if (!got.isEmpty()) {
            wrong++;
            System.out.println(what + " " + got + ", due is " + want);
        }
        same(what + " changed something, it", before, print(x));
    }

    static void end(String test) {
        System.out.println(test + ": " + asked + " answers asked for, " + wrong + " wrong");
        if (wrong != 0) {
            System.exit(1);
        }
    }

    /** All that can be asked for without changing anything. */
    static String print(Retroboard x) {
        StringBuilder s = new StringBuilder();
        s.append(x.checksum()).append(' ').append(list(x)).append(' ').append(x.isPossible());
        s.append(' ').append(lasts(x)).append(' ').append(award(x));
        for (int halves = 0; halves < 3; halves++) {
            int n = halves;
            s.append(' ').append(outcome(() -> x.games(n)));
        }
        return s.append(' ').append(outcome(() -> x.solutions())).append(' ').append(outcome(() -> x.tries())).toString();
    }

    static String outcome(Supplier<Object> call) {
        try {
            return String.valueOf(call.get());
        } catch (RuntimeException e) {
            return e.getClass().getSimpleName();
        }
    }

    /** The lawful moves, told in the tongue 0. */
    static String list(Retroboard x) {
        StringBuilder s = new StringBuilder();
        int many = x.moves();
        for (int i = 0; i < many; i++) {
            s.append(i == 0 ? "" : " ").append(text(x, i, 0));
        }
        return s.toString();
    }

    static String text(Retroboard x, int index, int tongue) {
        StringBuilder s = new StringBuilder();
        int many = x.told(index, tongue);
        for (int place = 0; place < many; place++) {
            s.append(x.sign(index, tongue, place));
        }
        return s.toString();
    }

    /** The last moves: kind, from, to, then what was captured, then e for en passant. */
    static String lasts(Retroboard x) {
        StringBuilder s = new StringBuilder();
        int many = x.lasts();
        for (int i = 0; i < many; i++) {
            s.append(i == 0 ? "" : " ").append((char) x.lastAt(i, 'k')).append(x.lastAt(i, 'f')).append('-').append(x.lastAt(i, 't'));
            s.append(x.lastAt(i, 'c') == 0 ? "" : String.valueOf((char) x.lastAt(i, 'c'))).append(x.lastAt(i, 'e') == 1 ? "e" : "");
        }
        return s.toString();
    }

    static String award(Retroboard x) {
        StringBuilder s = new StringBuilder();
        for (int place = 0; place < 13; place++) {
            int p = place;
            String entry = outcome(() -> x.award(p));
            if (entry.startsWith("No")) {
                break;
            }
            s.append(place == 0 ? "" : " ").append(entry);
        }
        return s.toString();
    }

    /** A move of the solutions, told by its cells. */
    static String solutions(Retroboard x, int plies) {
        StringBuilder s = new StringBuilder();
        int many = x.solutions();
        for (int i = 0; i < many; i++) {
            for (int ply = 0; ply < plies; ply++) {
                s.append(ply == 0 ? i == 0 ? "" : " " : ",").append(x.solved(i, ply, 'f')).append('-').append(x.solved(i, ply, 't'));
                s.append(x.solved(i, ply, 'p') == 0 ? "" : "=" + (char) x.solved(i, ply, 'p'));
            }
        }
        return s.toString();
    }

    /** Makes the lawful move from one cell to another one; the first one, of several. */
    static char go(Retroboard x, int from, int to) {
        int many = x.moves();
        for (int i = 0; i < many; i++) {
            if (x.moveAt(i, 'f') == from && x.moveAt(i, 't') == to) {
                return x.make(i);
            }
        }
        throw new IllegalArgumentException("the test goes where it cannot: " + from + "-" + to + " of " + list(x));
    }

    static boolean can(Retroboard x, int from, int to) {
        int many = x.moves();
        for (int i = 0; i < many; i++) {
            if (x.moveAt(i, 'f') == from && x.moveAt(i, 't') == to) {
                return true;
            }
        }
        return false;
    }

    /** A board with men: "Ka1 qc3 Pb2", capital letters for white. */
    static Retroboard bench(int columns, int rows, int side, String men) {
        Retroboard x = new Retroboard();
        x.board(columns, rows);
        lay(x, columns, men);
        x.turn(side);
        return x;
    }

    static void lay(Retroboard x, int columns, String men) {
        for (String man : men.isEmpty() ? new String[0] : men.split(" ")) {
            char letter = man.charAt(0);
            x.man(Character.toLowerCase(letter), Character.isUpperCase(letter) ? 0 : 1, cell(columns, man.substring(1)));
        }
    }

    static int cell(int columns, String name) {
        return name.charAt(0) - 'a' + (name.charAt(1) - '1') * columns;
    }

    /** The number that stands for some cells. */
    static int sum(int... cells) {
        long sum = 0;
        for (int cell : cells) {
            sum += 1L << cell;
        }
        return (int) (sum % 1000003);
    }
}
