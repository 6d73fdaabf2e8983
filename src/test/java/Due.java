import java.util.function.Supplier;

/** What tests count, and what they ask again and again. */
final class Due {
    static final Class<?> BOUNDS = IndexOutOfBoundsException.class;
    static final Class<?> ARGUMENT = IllegalArgumentException.class;
    static final Class<?> UNSUPPORTED = UnsupportedOperationException.class;
    static final Class<?> STATE = IllegalStateException.class;
    static final Class<?> MISSING = java.util.NoSuchElementException.class;

    private static int wrong = 0;
    private static int asked = 0;

    private Due() {
    }

    static void same(String what, Object want, Object got) {
        asked++;
        if (!want.equals(got)) {
            wrong++;
            System.out.println(what + " answered " + got + ", due is " + want);
        }
    }

    /** The call throws just this exception, and nothing that can be asked for is another one behind it. */
    static void thrown(String what, Class<?> want, Bench x, Supplier<Object> call) {
        String before = print(x, () -> { });
        String[] got = new String[1];
        String after = print(x, () -> got[0] = name(call));
        same(what, want.getSimpleName(), got[0]);
        same(what + " changed something, it", before, after);
    }

    private static String name(Supplier<Object> call) {
        try {
            return "the answer " + call.get();
        } catch (RuntimeException e) {
            return e.getClass().getSimpleName();
        }
    }

    static void end(String test) {
        System.out.println(test + ": " + asked + " answers asked for, " + wrong + " wrong");
        if (wrong != 0) {
            System.exit(1);
        }
    }

    /** All that can be asked for. */
    static String print(Bench x) {
        return print(x, () -> { });
    }

    /** All that can be asked for behind some calls more; each part of it of a new object, for calls are few. */
    static String print(Bench x, Runnable more) {
        return x.probe(more, () -> printMoves(x)) + x.probe(more, () -> printLasts(x)) + x.probe(more, () -> printFigures(x))
            + x.probe(more, () -> printLaid(x)) + x.probe(more, () -> printUndone(x)) + x.probe(more, () -> printEntries(x));
    }

    private static String printMoves(Bench x) {
        StringBuilder s = new StringBuilder().append(x.checksum()).append(' ').append(x.moves());
        for (int i = 0; i < Math.min(x.moves(), 60); i++) {
            s.append(' ').append(x.moveAt(i, 'f')).append(x.moveAt(i, 'x') == 0 ? "-" : "x").append(x.moveAt(i, 't')).append((char) x.moveAt(i, 'p'));
        }
        return s.toString();
    }

    private static String printLasts(Bench x) {
        StringBuilder s = new StringBuilder().append(x.lasts());
        for (int i = 0; i < Math.min(x.lasts(), 40); i++) {
            for (char what : "ftkce".toCharArray()) {
                s.append(' ').append(x.lastAt(i, what));
            }
        }
        return s.toString();
    }

    private static String printFigures(Bench x) {
        StringBuilder s = new StringBuilder().append(x.isPossible()).append(x.isCheck(0)).append(x.isCheck(1)).append(x.mobility());
        for (int halves = 0; halves < 3; halves++) {
            int n = halves;
            s.append(' ').append(outcome(() -> x.games(n)));
        }
        s.append(' ').append(outcome(() -> x.solutions())).append(' ').append(outcome(() -> x.tries()));
        for (int i = 0; i < 5; i++) {
            int n = i;
            s.append(' ').append(outcome(() -> x.solved(n, 0, 'f'))).append(outcome(() -> x.solved(0, n, 't')));
            s.append(' ').append(outcome(() -> x.tried(n, true))).append(outcome(() -> x.duals(n)));
        }
        return s.append(' ').append(outcome(() -> x.prove())).toString();
    }

    /** What lies on the board and beside it, conditions, armies, the side that moves, and the problem. */
    private static String printLaid(Bench x) {
        StringBuilder s = new StringBuilder();
        for (int cell = 0; cell < 37; cell++) {
            int n = cell;
            s.append(outcome(() -> x.at(n)));
        }
        for (char condition : "mgp".toCharArray()) {
            s.append(' ').append(x.condition(condition, false));
        }
        for (char kind : "kqrbnigcp".toCharArray()) {
            s.append(' ').append(x.army(kind, 0, 0)).append(x.army(kind, 1, 0));
        }
        return s.append(' ').append(x.turn(0)).append(' ').append(x.problem('d', 1, '#')).toString();
    }

    private static String printUndone(Bench x) {
        StringBuilder s = new StringBuilder();
        for (int i = 0; i < 60; i++) {
            String left = outcome(() -> x.undo());
            s.append(' ').append(left).append(' ').append(x.checksum()).append(' ').append(x.moves()).append(' ').append(x.mobility());
            if (left.startsWith("No")) {
                break;
            }
        }
        return s.append(' ').append(x.turn(0)).toString();
    }

    private static String printEntries(Bench x) {
        StringBuilder s = new StringBuilder(award(x)).append(' ').append(outcome(() -> x.meanPoints()));
        for (int entry = 0; entry < 12; entry++) {
            int e = entry;
            for (int other = 0; other <= entry; other++) {
                int o = other;
                s.append(' ').append(outcome(() -> x.like(e, o)));
            }
            s.append(' ').append(outcome(() -> x.anticipated(e, 1))).append(outcome(() -> x.cook(e)));
        }
        return s.append(' ').append(outcome(() -> x.enter(0, 0))).toString();
    }

    static String outcome(Supplier<Object> call) {
        try {
            return String.valueOf(call.get());
        } catch (RuntimeException e) {
            return e.getClass().getSimpleName();
        }
    }

    /** The lawful moves, told in the tongue 0. */
    static String list(Bench x) {
        StringBuilder s = new StringBuilder();
        int many = x.moves();
        for (int i = 0; i < many; i++) {
            s.append(i == 0 ? "" : " ").append(text(x, i, 0));
        }
        return s.toString();
    }

    static String text(Bench x, int index, int tongue) {
        StringBuilder s = new StringBuilder();
        int many = x.told(index, tongue);
        for (int place = 0; place < many; place++) {
            s.append(x.sign(index, tongue, place));
        }
        return s.toString();
    }

    /** The last moves: kind, from, to, then what was captured, then e for en passant. */
    static String lasts(Bench x) {
        StringBuilder s = new StringBuilder();
        int many = x.lasts();
        for (int i = 0; i < many; i++) {
            s.append(i == 0 ? "" : " ").append((char) x.lastAt(i, 'k')).append(x.lastAt(i, 'f')).append('-').append(x.lastAt(i, 't'));
            s.append(x.lastAt(i, 'c') == 0 ? "" : String.valueOf((char) x.lastAt(i, 'c'))).append(x.lastAt(i, 'e') == 1 ? "e" : "");
        }
        return s.toString();
    }

    static String award(Bench x) {
        StringBuilder s = new StringBuilder();
        for (int place = 0; place < 13; place++) {
            int p = place;
            String entry = outcome(() -> x.award(p));
            if (entry.startsWith("No")) {
                break;
            }
            s.append(place == 0 ? "" : " ").append(entry);
        }
        return s.toString();
    }

    /** A move of the solutions, told by its cells. */
    static String solutions(Bench x, int plies) {
        StringBuilder s = new StringBuilder();
        int many = x.solutions();
        for (int i = 0; i < many; i++) {
            for (int ply = 0; ply < plies; ply++) {
                s.append(ply == 0 ? i == 0 ? "" : " " : ",").append(x.solved(i, ply, 'f')).append('-').append(x.solved(i, ply, 't'));
                s.append(x.solved(i, ply, 'p') == 0 ? "" : "=" + (char) x.solved(i, ply, 'p'));
            }
        }
        return s.toString();
    }

    /** Makes the lawful move from one cell to another one; the first one, of several. */
    static char go(Bench x, int from, int to) {
        int many = x.moves();
        for (int i = 0; i < many; i++) {
            if (x.moveAt(i, 'f') == from && x.moveAt(i, 't') == to) {
                return x.make(i);
            }
        }
        throw new IllegalArgumentException("the test goes where it cannot: " + from + "-" + to + " of " + list(x));
    }

    static boolean can(Bench x, int from, int to) {
        int many = x.moves();
        for (int i = 0; i < many; i++) {
            if (x.moveAt(i, 'f') == from && x.moveAt(i, 't') == to) {
                return true;
            }
        }
        return false;
    }

    /** A board with men: "Ka1 qc3 Pb2", capital letters for white. */
    static Bench bench(int columns, int rows, int side, String men) {
        Bench x = new Bench();
        x.board(columns, rows);
        lay(x, columns, men);
        x.turn(side);
        return x;
    }

    static void lay(Bench x, int columns, String men) {
        for (String man : men.isEmpty() ? new String[0] : men.split(" ")) {
            char letter = man.charAt(0);
            x.man(Character.toLowerCase(letter), Character.isUpperCase(letter) ? 0 : 1, cell(columns, man.substring(1)));
        }
    }

    static int cell(int columns, String name) {
        return name.charAt(0) - 'a' + (name.charAt(1) - '1') * columns;
    }

    /** The number that stands for some cells. */
    static int sum(int... cells) {
        long sum = 0;
        for (int cell : cells) {
            sum += 1L << cell;
        }
        return (int) (sum % 1000003);
    }
}
