import java.util.List;
import java.util.Random;
import java.util.concurrent.atomic.AtomicInteger;
import java.util.concurrent.atomic.AtomicIntegerArray;
import java.util.function.Supplier;
import java.util.stream.LongStream;

/** Random runs of calls, with seeds of their own, on a Retroboard and on the Oracle: all answers are the same. */
public final class OracleTest {
    private static final String LETTERS = "kqrbnigcp";
    private static final String SMALL_KINDS = "kqrbnigcpppppp";

    private final Retroboard x = new Retroboard();
    private final Oracle o = new Oracle();
    private final Random random;
    private final long seed;
    private final StringBuilder told = new StringBuilder();
    /** An object is promised for 512 calls alone; a run ends there. */
    private int calls;
    private static final AtomicInteger wrong = new AtomicInteger();
    /** How often the runs came upon what they are to show. */
    private static final AtomicIntegerArray seen = new AtomicIntegerArray(8);

    private OracleTest(long seed) {
        this.seed = seed;
        random = new Random(seed);
    }

    public static void main(String[] args) {
        int runs = args.length > 0 ? Integer.parseInt(args[0]) : 1600;
        long first = args.length > 1 ? Long.parseLong(args[1]) : 1;
        LongStream.range(first, first + runs).parallel().forEach(seed -> new OracleTest(seed).run());
        System.out.println("solutions " + seen.get(0) + ", tries " + seen.get(1) + ", duals " + seen.get(2) + ", proved "
            + seen.get(3) + ", games " + seen.get(4) + ", pure " + seen.get(5) + ", en passant " + seen.get(6)
            + ", en passant before " + seen.get(7));
        System.out.println(wrong.get() == 0 ? runs + " runs answered as the oracle" : wrong.get() + " answers differ from the oracle's");
        for (int i = 0; i < seen.length(); i++) {
            if (seen.get(i) == 0 && runs >= 1600) {
                System.out.println("the runs miss something that they are to show");
                wrong.incrementAndGet();
            }
        }
        if (wrong.get() != 0) {
            System.exit(1);
        }
    }

    private static String outcome(Supplier<Object> call) {
        try {
            return String.valueOf(call.get());
        } catch (RuntimeException e) {
            return "throws " + e.getClass().getSimpleName();
        }
    }

    private String same(String call, Supplier<Object> mine, Supplier<Object> theirs) {
        if (calls++ == Bench.MOST_CALLS) {
            throw new IllegalStateException("stop");
        }
        String got = outcome(mine);
        String want = outcome(theirs);
        told.append(call).append(" -> ").append(got).append('\n');
        if (!got.equals(want)) {
            wrong.incrementAndGet();
            System.out.println("seed " + seed + ": " + call + " answered " + got + ", due is " + want + " behind\n" + told);
            throw new IllegalStateException("stop");
        }
        return got;
    }

    private int below(int bound) {
        return random.nextInt(bound);
    }

    private char letter(String from) {
        return from.charAt(below(from.length()));
    }

    private int index(int size) {
        return below(20) == 0 ? below(2) == 0 ? -1 : size : size == 0 ? 0 : below(size);
    }

    private void run() {
        try {
            lay();
            int calls = 30 + below(30);
            for (int i = 0; i < calls; i++) {
                step();
            }
        } catch (IllegalStateException e) {
            if (!"stop".equals(e.getMessage())) {
                throw e;
            }
        }
    }

    private void lay() {
        switch (below(7)) {
            case 0:
                layProved();
                break;
            case 2:
                layPassing();
                break;
            case 1:
                layHunt();
                break;
            default:
                layAny();
                break;
        }
    }

    private void put(char kind, int side, int cell) {
        same("man('" + kind + "', " + side + ", " + cell + ")", () -> x.man(kind, side, cell), () -> o.man(kind, side, cell));
    }

    /** A pawn that is about to go by two cells, or has just done so, and one that could capture it. */
    private void layPassing() {
        int columns = 3 + below(4);
        int rows = 5 + below(2);
        same("board(" + columns + ", " + rows + ")", () -> x.board(columns, rows), () -> o.board(columns, rows));
        int mover = below(2);
        int column = below(columns);
        int beside = column == 0 ? 1 : column == columns - 1 ? column - 1 : column + 1 - 2 * below(2);
        int second = mover == 0 ? 1 : rows - 2;
        int fourth = mover == 0 ? 3 : rows - 4;
        boolean isGone = below(2) == 0;
        put('p', mover, column + columns * (isGone ? fourth : second));
        put('p', 1 - mover, beside + columns * fourth);
        for (int i = below(4); i > 0; i--) {
            man(letter("kpqrbnigc"));
        }
        if (below(2) == 0) {
            man('k');
        }
        if (below(3) == 0) {
            condition();
        }
        int side = isGone ? 1 - mover : mover;
        same("turn(" + side + ")", () -> x.turn(side), () -> o.turn(side));
        if (isGone) {
            history();
        } else {
            make();
            everyMove();
            if (below(4) == 0) {
                change();
            }
            make();
        }
    }

    /** A pawn that can only just have gone by two cells, for from the third row it would give check. */
    private void layProved() {
        int columns = 3 + below(4);
        int rows = 5 + below(2);
        same("board(" + columns + ", " + rows + ")", () -> x.board(columns, rows), () -> o.board(columns, rows));
        int mover = below(2);
        int column = 1 + below(columns - 2);
        int aside = 1 - 2 * below(2);
        int fourth = columns * (mover == 0 ? 3 : rows - 4);
        put('p', mover, column + fourth);
        put('p', 1 - mover, column + aside + fourth);
        put('k', 1 - mover, column - aside + fourth);
        for (char kind : "qrbnp".toCharArray()) {
            int many = kind == 'p' ? 1 : below(8) == 0 ? 1 : 0;
            same("army('" + kind + "', " + (1 - mover) + ", " + many + ")", () -> x.army(kind, 1 - mover, many), () -> o.army(kind, 1 - mover, many));
        }
        for (int i = below(3); i > 0; i--) {
            put('p', mover, below(columns) + columns * (mover == 0 ? 1 : rows - 2));
        }
        if (below(5) == 0) {
            condition();
        }
        same("turn(" + (1 - mover) + ")", () -> x.turn(1 - mover), () -> o.turn(1 - mover));
        history();
        solve();
        make();
        same("undo()", () -> x.undo(), () -> o.undo());
        everyMove();
        solve();
    }

    /** A king in a corner that a few men hunt: problems that have solutions, tries and duals. */
    private void layHunt() {
        int columns = 3 + below(3);
        int rows = 3 + below(3);
        same("board(" + columns + ", " + rows + ")", () -> x.board(columns, rows), () -> o.board(columns, rows));
        put('k', 1, below(2) == 0 ? 0 : columns - 1);
        put('k', 0, columns * (1 + below(rows - 1)) + below(columns));
        for (int i = 1 + below(2); i > 0; i--) {
            int cell = below(o.men.length);
            char kind = letter("qqrrbnigc");
            put(kind, 0, cell);
        }
        if (below(3) == 0) {
            man('p');
        }
        for (int i = 0; i < 3; i++) {
            solve();
        }
    }

    private void layAny() {
        int columns = 3 + below(4);
        int rows = 3 + below(4);
        same("board(" + columns + ", " + rows + ")", () -> x.board(columns, rows), () -> o.board(columns, rows));
        boolean isPawnful = below(2) == 0;
        int many = 1 + below(below(3) == 0 ? 10 : 6);
        for (int i = 0; i < many; i++) {
            man(isPawnful ? letter(SMALL_KINDS) : letter(LETTERS));
        }
        for (int i = 0; i < 2; i++) {
            if (below(4) > 0) {
                man('k');
            }
        }
        if (below(3) == 0) {
            condition();
        }
        if (below(2) == 0) {
            turn();
        }
    }

    private void man(char kind) {
        int side = below(40) == 0 ? below(4) - 1 : below(2);
        int cell = index(o.men.length);
        char k = below(60) == 0 ? 'x' : kind;
        same("man('" + k + "', " + side + ", " + cell + ")", () -> x.man(k, side, cell), () -> o.man(k, side, cell));
    }

    private void condition() {
        char letter = letter("mgpmgpmgpmgpk");
        boolean is = below(3) > 0;
        same("condition('" + letter + "', " + is + ")", () -> x.condition(letter, is), () -> o.condition(letter, is));
    }

    private void turn() {
        int side = below(30) == 0 ? below(4) - 1 : below(2);
        same("turn(" + side + ")", () -> x.turn(side), () -> o.turn(side));
    }

    private void step() {
        switch (below(14)) {
            case 0:
            case 1:
            case 2:
            case 3:
                make();
                break;
            case 4:
                same("undo()", () -> x.undo(), () -> o.undo());
                break;
            case 5:
                change();
                break;
            case 6:
            case 7:
                ask();
                break;
            case 8:
            case 9:
                solve();
                break;
            case 10:
            case 11:
                history();
                break;
            case 12:
                compete();
                break;
            default:
                everyMove();
                break;
        }
    }

    private void make() {
        int size = o.moves();
        int index = index(size);
        // Steps of pawns by two cells are seldom, and worth more than others.
        for (int i = 0; i < size && below(3) > 0; i++) {
            Oracle.Move m = o.list().get(i);
            boolean isPawn = Character.toLowerCase(o.men[m.from()]) == 'p';
            if (isPawn && (Math.abs(m.to() - m.from()) == 2 * o.columns || (m.victim() >= 0 && m.victim() != m.to()))) {
                seen.addAndGet(6, m.victim() >= 0 ? 1 : 0);
                index = i;
            }
        }
        int chosen = index;
        same("make(" + chosen + ")", () -> x.make(chosen), () -> o.make(chosen));
    }

    private void change() {
        switch (below(6)) {
            case 0:
                man(letter(SMALL_KINDS));
                break;
            case 1:
                int cell = index(o.men.length);
                same("lift(" + cell + ")", () -> x.lift(cell), () -> o.lift(cell));
                break;
            case 2:
                turn();
                break;
            case 3:
                condition();
                break;
            case 4:
                char kind = below(30) == 0 ? '.' : letter(LETTERS);
                int side = below(30) == 0 ? 2 : below(2);
                int many = below(30) == 0 ? below(2) * 11 - 1 : below(10);
                same("army('" + kind + "', " + side + ", " + many + ")", () -> x.army(kind, side, many), () -> o.army(kind, side, many));
                break;
            default:
                if (below(3) == 0) {
                    lay();
                }
                break;
        }
    }

    private void ask() {
        int side = below(30) == 0 ? 2 : below(2);
        int cell = index(o.men.length);
        boolean is = below(2) == 0;
        char aim = letter("#=#=#=#=#=+");
        same("isCheck(" + side + ")", () -> x.isCheck(side), () -> o.isCheck(side));
        same("isAim('" + aim + "')", () -> x.isAim(aim), () -> o.isAim(aim));
        same("reach(" + cell + ", " + is + ")", () -> x.reach(cell, is), () -> o.reach(cell, is));
        same("at(" + cell + ")", () -> x.at(cell), () -> o.at(cell));
        if (same("isPure()", () -> x.isPure(), () -> o.isPure()).equals("true")) {
            seen.incrementAndGet(5);
        }
        same("checksum()", () -> x.checksum(), () -> o.checksum());
        same("mobility()", () -> x.mobility(), () -> o.mobility());
        same("isPossible()", () -> x.isPossible(), () -> o.isPossible());
        if (below(3) == 0) {
            same("isSound()", () -> x.isSound(), () -> o.isSound());
        }
    }

    private void everyMove() {
        same("moves()", () -> x.moves(), () -> o.moves());
        int size = o.moves();
        for (int i = -1; i <= size; i++) {
            int index = i;
            if (below(5) > 0 && i >= 0 && i < size - 1) {
                continue;
            }
            for (char what : "ftpxk".toCharArray()) {
                same("moveAt(" + i + ", '" + what + "')", () -> x.moveAt(index, what), () -> o.moveAt(index, what));
            }
            for (int tongue = 0; tongue < (below(5) == 0 ? 3 : 2); tongue++) {
                int t = tongue;
                String signs = same("told(" + i + ", " + t + ")", () -> x.told(index, t), () -> o.told(index, t));
                int many = signs.startsWith("throws") ? 1 : Integer.parseInt(signs);
                for (int place = 0; place <= many; place++) {
                    int k = below(30) == 0 ? -1 : place;
                    same("sign(" + i + ", " + t + ", " + k + ")", () -> x.sign(index, t, k), () -> o.sign(index, t, k));
                }
            }
        }
    }

    private void solve() {
        char kind = below(40) == 0 ? 'x' : letter("dshz");
        int length = below(40) == 0 ? 0 : 1 + below(kind == 'z' ? 3 : 2) + (below(40) == 0 ? 2 : 0);
        char aim = below(40) == 0 ? '+' : letter("##=");
        if (below(5) > 0) {
            same("problem('" + kind + "', " + length + ", '" + aim + "')", () -> x.problem(kind, length, aim), () -> o.problem(kind, length, aim));
        }
        if (o.length > 0 && isDear()) {
            return;
        }
        String got = same("solutions()", () -> x.solutions(), () -> o.solutions());
        int many = got.startsWith("throws") ? 1 : Integer.parseInt(got);
        seen.addAndGet(0, got.startsWith("throws") ? 0 : many);
        int solution = index(many);
        int ply = index(o.kind == 'h' ? 2 * o.length : o.kind == 'z' ? o.length : 1);
        char what = letter("ftftpx");
        same("solved(" + solution + ", " + ply + ", '" + what + "')", () -> x.solved(solution, ply, what), () -> o.solved(solution, ply, what));
        got = same("tries()", () -> x.tries(), () -> o.tries());
        int tries = got.startsWith("throws") ? 1 : Integer.parseInt(got);
        seen.addAndGet(1, got.startsWith("throws") ? 0 : tries);
        int index = index(tries);
        boolean is = below(2) == 0;
        same("tried(" + index + ", " + is + ")", () -> x.tried(index, is), () -> o.tried(index, is));
        got = same("duals(" + solution + ")", () -> x.duals(solution), () -> o.duals(solution));
        seen.addAndGet(2, got.startsWith("throws") || got.equals("0") ? 0 : 1);
    }

    /** Whether the oracle would take too long over the problem. */
    private boolean isDear() {
        int white = Oracle.lawful(o.forProblem(0), 0).size();
        int black = Oracle.lawful(o.forProblem(1), 1).size();
        return white * black <= 200 && o.length > 1 && (white > 14 || black > 14 || (o.kind != 'd' && white * black > 70));
    }

    private void history() {
        String got = same("lasts()", () -> x.lasts(), () -> o.lasts());
        int many = Integer.parseInt(got);
        List<Oracle.Last> all = o.lastMoves();
        for (int i = 0; i < many; i++) {
            if (all.get(i).passing()) {
                seen.incrementAndGet(7);
                everyThing(i);
            } else if (below(many) < 4) {
                everyThing(i);
            }
        }
        everyThing(index(many));
        if (same("prove()", () -> x.prove(), () -> o.prove()).startsWith("throws")) {
            got = "";
        } else {
            seen.incrementAndGet(3);
            everyMove();
            solve();
        }
        if (below(3) == 0) {
            same("array()", () -> x.array(), () -> o.array());
        }
        int halves = below(30) == 0 ? 5 : below(30) == 0 ? -1 : below(o.moves() > 8 ? 3 : 5);
        got = same("games(" + halves + ")", () -> x.games(halves), () -> o.games(halves));
        seen.addAndGet(4, got.startsWith("throws") || halves < 2 ? 0 : Integer.parseInt(got));
    }

    private void everyThing(int i) {
        for (char what : "ftkcex".toCharArray()) {
            same("lastAt(" + i + ", '" + what + "')", () -> x.lastAt(i, what), () -> o.lastAt(i, what));
        }
    }

    private void compete() {
        int points = below(30) == 0 ? 101 : below(4);
        int year = below(30) == 0 ? -1 : below(5);
        int size = o.entries.size();
        int entry = index(size);
        int other = index(size);
        int least = below(30) == 0 ? 11 : below(30) == 0 ? 0 : 1 + below(4);
        if (below(2) == 0) {
            same("enter(" + points + ", " + year + ")", () -> x.enter(points, year), () -> o.enter(points, year));
        }
        if (below(4) == 0) {
            same("cook(" + entry + ")", () -> x.cook(entry), () -> o.cook(entry));
        }
        same("like(" + entry + ", " + other + ")", () -> x.like(entry, other), () -> o.like(entry, other));
        same("anticipated(" + entry + ", " + least + ")", () -> x.anticipated(entry, least), () -> o.anticipated(entry, least));
        same("award(" + entry + ")", () -> x.award(entry), () -> o.award(entry));
        if (below(6) == 0) {
            same("withdraw(" + year + ")", () -> x.withdraw(year), () -> o.withdraw(year));
        }
        same("meanPoints()", () -> x.meanPoints(), () -> o.meanPoints());
    }
}
