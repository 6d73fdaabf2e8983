import java.util.ArrayDeque;
import java.util.ArrayList;
import java.util.Arrays;
import java.util.Deque;
import java.util.List;
import java.util.NoSuchElementException;
import java.util.TreeSet;

/**
 * The document told once more, in the plainest way and without regard to speed: every question is asked of every
 * pair of cells. It shares no code with Retroboard, so that the two can be held against each other.
 */
final class Oracle {
    static final String KINDS = "kqrbnigcp";

    /** A position; never changed once it is laid. */
    static final class Pos {
        final int columns;
        final int rows;
        final char[] men;
        final int side;
        final TreeSet<Integer> passed = new TreeSet<>();
        final String conditions;

        Pos(int columns, int rows, char[] men, int side, String conditions) {
            this.columns = columns;
            this.rows = rows;
            this.men = men;
            this.side = side;
            this.conditions = conditions;
        }

        Pos withSide(int other) {
            return new Pos(columns, rows, men, other, conditions);
        }

        int cells() {
            return columns * rows;
        }

        int row(int cell) {
            return cell / columns;
        }

        int column(int cell) {
            return cell % columns;
        }

        char kind(int cell) {
            return Character.toLowerCase(men[cell]);
        }

        boolean has(int cell, int whose) {
            return men[cell] != '.' && sideOf(men[cell]) == whose;
        }

        int king(int whose) {
            for (int cell = 0; cell < cells(); cell++) {
                if (has(cell, whose) && kind(cell) == 'k') {
                    return cell;
                }
            }
            return -1;
        }

        boolean is(char condition) {
            return conditions.indexOf(condition) >= 0;
        }
    }

    record Move(int from, int to, char becomes, int victim) {
    }

    record Last(int from, int to, char kind, char caught, boolean passing) {
    }

    record Made(char[] men, int side, int made, int proven) {
    }

    record Entry(int columns, int rows, char[] men, int points, int year, boolean[] flags) {
    }

    int columns = 5;
    int rows = 5;
    char[] men = new char[25];
    int side = 0;
    int made = -1;
    int proven = -1;
    String conditions = "";
    final int[][] armies = new int[2][9];
    char kind;
    int length = 0;
    char aim;
    char[] kept = null;
    int keptSide;
    final Deque<Made> undo = new ArrayDeque<>();
    final List<Entry> entries = new ArrayList<>();

    Oracle() {
        Arrays.fill(men, '.');
        for (int s = 0; s < 2; s++) {
            armies[s] = new int[] {1, 1, 2, 2, 2, 0, 0, 0, 6};
        }
    }

    static int sideOf(char man) {
        return Character.isUpperCase(man) ? 0 : 1;
    }

    static char manOf(char kind, int side) {
        return side == 0 ? Character.toUpperCase(kind) : kind;
    }

    // The rules.

    static boolean isFreeBetween(Pos p, int from, int dr, int dc, int steps) {
        for (int n = 1; n < steps; n++) {
            if (p.men[from + n * (dr * p.columns + dc)] != '.') {
                return false;
            }
        }
        return true;
    }

    static boolean reaches(Pos p, int from, int to) {
        if (from == to || p.men[from] == '.') {
            return false;
        }
        int dr = p.row(to) - p.row(from);
        int dc = p.column(to) - p.column(from);
        int big = Math.max(Math.abs(dr), Math.abs(dc));
        int small = Math.min(Math.abs(dr), Math.abs(dc));
        boolean straight = small == 0;
        boolean aslant = small == big;
        int sr = Integer.signum(dr);
        int sc = Integer.signum(dc);
        switch (p.kind(from)) {
            case 'k':
                return big == 1;
            case 'n':
                return big == 2 && small == 1;
            case 'c':
                return big == 3 && small == 1;
            case 'r':
                return straight && isFreeBetween(p, from, sr, sc, big);
            case 'b':
                return aslant && isFreeBetween(p, from, sr, sc, big);
            case 'q':
                return (straight || aslant) && isFreeBetween(p, from, sr, sc, big);
            case 'i':
                return big == 2 * small && isFreeBetween(p, from, dr / small, dc / small, small);
            case 'g':
                return (straight || aslant) && big >= 2 && p.men[to - sr * p.columns - sc] != '.'
                    && isFreeBetween(p, from, sr, sc, big - 1);
            default:
                return Math.abs(dc) == 1 && dr == (sideOf(p.men[from]) == 0 ? 1 : -1);
        }
    }

    static boolean isSameBlock(Pos p, int a, int b) {
        return p.row(a) / 2 == p.row(b) / 2 && p.column(a) / 2 == p.column(b) / 2;
    }

    static boolean isParalysed(Pos p, int cell) {
        if (!p.is('m') || p.kind(cell) == 'k') {
            return false;
        }
        for (int other = 0; other < p.cells(); other++) {
            if (p.men[other] != '.' && p.kind(other) == p.kind(cell) && p.men[other] != p.men[cell] && reaches(p, other, cell)) {
                return true;
            }
        }
        return false;
    }

    static boolean isPatrolled(Pos p, int cell) {
        for (int other = 0; other < p.cells(); other++) {
            if (other != cell && p.has(other, sideOf(p.men[cell])) && reaches(p, other, cell)) {
                return true;
            }
        }
        return !p.is('p');
    }

    static boolean strikes(Pos p, int from, int to) {
        return reaches(p, from, to) && !isParalysed(p, from) && !(p.is('g') && isSameBlock(p, from, to)) && isPatrolled(p, from);
    }

    static int strikers(Pos p, int cell, int by) {
        int many = 0;
        for (int from = 0; from < p.cells(); from++) {
            if (p.has(from, by) && strikes(p, from, cell)) {
                many++;
            }
        }
        return many;
    }

    static boolean isChecked(Pos p, int side) {
        return p.king(side) >= 0 && strikers(p, p.king(side), 1 - side) > 0;
    }

    /** The cell of the man captured, -1 for none, -2 if the man cannot go there. */
    static int tryGo(Pos p, int from, int to) {
        int mover = sideOf(p.men[from]);
        if (isParalysed(p, from) || (p.is('g') && isSameBlock(p, from, to)) || p.has(to, mover) || from == to) {
            return -2;
        }
        boolean isFoe = p.has(to, 1 - mover);
        if (isFoe) {
            return p.kind(to) != 'k' && reaches(p, from, to) && isPatrolled(p, from) ? to : -2;
        }
        if (p.kind(from) != 'p') {
            return reaches(p, from, to) ? -1 : -2;
        }
        int up = mover == 0 ? 1 : -1;
        int dr = p.row(to) - p.row(from);
        if (p.column(to) == p.column(from)) {
            boolean second = p.row(from) == (mover == 0 ? 1 : p.rows - 2) && p.rows >= 5;
            return dr == up || (dr == 2 * up && second && p.men[from + up * p.columns] == '.') ? -1 : -2;
        }
        int behind = to - up * p.columns;
        boolean isPassing = reaches(p, from, to) && p.passed.contains(to) && behind >= 0 && behind < p.cells()
            && p.men[behind] == manOf('p', 1 - mover);
        return isPassing && isPatrolled(p, from) ? behind : -2;
    }

    static Pos after(Pos p, Move m) {
        char[] men = p.men.clone();
        if (m.victim >= 0) {
            men[m.victim] = '.';
        }
        char man = men[m.from];
        men[m.from] = '.';
        men[m.to] = m.becomes == 0 ? man : manOf(m.becomes, sideOf(man));
        Pos then = new Pos(p.columns, p.rows, men, 1 - sideOf(man), p.conditions);
        if (Character.toLowerCase(man) == 'p' && Math.abs(p.row(m.to) - p.row(m.from)) == 2) {
            then.passed.add((m.from + m.to) / 2);
        }
        return then;
    }

    static List<Move> lawful(Pos p, int mover) {
        List<Move> all = new ArrayList<>();
        for (int from = 0; from < p.cells(); from++) {
            for (int to = 0; to < p.cells() && p.has(from, mover); to++) {
                int victim = tryGo(p, from, to);
                if (victim == -2) {
                    continue;
                }
                boolean isLast = p.kind(from) == 'p' && p.row(to) == (mover == 0 ? p.rows - 1 : 0);
                for (char becomes : isLast ? "qrbn".toCharArray() : new char[] {0}) {
                    Move m = new Move(from, to, becomes, victim);
                    if (!isChecked(after(p, m), mover)) {
                        all.add(m);
                    }
                }
            }
        }
        return all;
    }

    static boolean isSo(Pos p, int side, char aim) {
        return lawful(p, side).isEmpty() && isChecked(p, side) == (aim == '#');
    }

    Pos now() {
        Pos p = new Pos(columns, rows, men.clone(), side, conditions);
        if (made >= 0) {
            p.passed.add(made);
        }
        if (proven >= 0) {
            p.passed.add(proven);
        }
        return p;
    }

    List<Move> list() {
        return lawful(now(), side);
    }

    // The face.

    int board(int c, int r) {
        if (c < 3 || c > 6 || r < 3 || r > 6) {
            throw new IllegalArgumentException();
        }
        columns = c;
        rows = r;
        men = new char[c * r];
        Arrays.fill(men, '.');
        side = 0;
        made = -1;
        proven = -1;
        conditions = "";
        length = 0;
        kept = null;
        undo.clear();
        return c * r;
    }

    void needCell(int cell) {
        if (cell < 0 || cell >= men.length) {
            throw new IndexOutOfBoundsException();
        }
    }

    int many() {
        int many = 0;
        for (char man : men) {
            many += man == '.' ? 0 : 1;
        }
        return many;
    }

    int man(char k, int s, int cell) {
        needCell(cell);
        int row = cell / columns;
        if (KINDS.indexOf(k) < 0 || s < 0 || s > 1 || (k == 'p' && (row == 0 || row == rows - 1))) {
            throw new IllegalArgumentException();
        }
        if (men[cell] != '.' || (k == 'k' && now().king(s) >= 0)) {
            throw new UnsupportedOperationException();
        }
        if (many() == 10) {
            throw new IllegalStateException();
        }
        men[cell] = manOf(k, s);
        undo.clear();
        proven = -1;
        return many();
    }

    char lift(int cell) {
        needCell(cell);
        if (men[cell] == '.') {
            throw new NoSuchElementException();
        }
        char man = men[cell];
        if (made >= 0 && cell == made + (side == 1 ? columns : -columns)) {
            made = -1;
        }
        men[cell] = '.';
        undo.clear();
        proven = -1;
        return man;
    }

    char at(int cell) {
        needCell(cell);
        return men[cell];
    }

    int turn(int s) {
        if (s < 0 || s > 1) {
            throw new IllegalArgumentException();
        }
        int before = side;
        side = s;
        made = -1;
        proven = -1;
        return before;
    }

    boolean condition(char letter, boolean is) {
        if ("mgp".indexOf(letter) < 0) {
            throw new IllegalArgumentException();
        }
        boolean was = conditions.indexOf(letter) >= 0;
        conditions = conditions.replace("" + letter, "") + (is ? "" + letter : "");
        return was;
    }

    int army(char k, int s, int many) {
        if (KINDS.indexOf(k) < 0 || s < 0 || s > 1 || many < 0 || many > 9) {
            throw new IllegalArgumentException();
        }
        int before = armies[s][KINDS.indexOf(k)];
        armies[s][KINDS.indexOf(k)] = many;
        return before;
    }

    int moves() {
        return list().size();
    }

    Move needMove(int index) {
        List<Move> all = list();
        if (index < 0 || index >= all.size()) {
            throw new NoSuchElementException();
        }
        return all.get(index);
    }

    static int thing(int f, int t, int p, int x, char what) {
        switch (what) {
            case 'f':
                return f;
            case 't':
                return t;
            case 'p':
                return p;
            case 'x':
                if (x >= 0) {
                    return x;
                }
                throw new IllegalArgumentException();
            default:
                throw new IllegalArgumentException();
        }
    }

    int moveAt(int index, char what) {
        Move m = needMove(index);
        return thing(m.from, m.to, m.becomes, m.victim >= 0 ? 1 : 0, what);
    }

    char make(int index) {
        Move m = needMove(index);
        char caught = m.victim < 0 ? '.' : men[m.victim];
        undo.push(new Made(men.clone(), side, made, proven));
        Pos then = after(now(), m);
        men = then.men;
        side = then.side;
        made = then.passed.isEmpty() ? -1 : then.passed.first();
        proven = -1;
        return caught;
    }

    int undo() {
        if (undo.isEmpty()) {
            throw new NoSuchElementException();
        }
        Made was = undo.pop();
        men = was.men;
        side = was.side;
        made = was.made;
        proven = was.proven;
        return undo.size();
    }

    boolean isCheck(int s) {
        if (s < 0 || s > 1) {
            throw new IllegalArgumentException();
        }
        return isChecked(now(), s);
    }

    boolean isAim(char a) {
        if (a != '#' && a != '=') {
            throw new IllegalArgumentException();
        }
        return isSo(now(), side, a);
    }

    int reach(int cell, boolean isStruck) {
        needCell(cell);
        if (men[cell] == '.') {
            throw new NoSuchElementException();
        }
        long sum = 0;
        for (int to = men.length - 1; to >= 0; to--) {
            boolean is = isStruck ? strikes(now(), cell, to) : reaches(now(), cell, to);
            sum = (2 * sum + (is ? 1 : 0)) % 1000003;
        }
        return (int) sum;
    }

    boolean isPure() {
        Pos p = now();
        if (!isSo(p, side, '#')) {
            return false;
        }
        int king = p.king(side);
        char[] without = men.clone();
        without[king] = '.';
        Pos q = new Pos(columns, rows, without, side, conditions);
        for (int cell = 0; cell < men.length; cell++) {
            boolean isNext = cell != king && Math.abs(p.row(cell) - p.row(king)) <= 1 && Math.abs(p.column(cell) - p.column(king)) <= 1;
            if (isNext && strikers(q, cell, 1 - side) != (q.has(cell, side) ? 0 : 1)) {
                return false;
            }
        }
        return true;
    }

    String text(Move m, int tongue) {
        String letters = tongue == 0 ? "KQRBNIGC" : "KDTLSIGC";
        Pos p = now();
        StringBuilder s = new StringBuilder();
        if (p.kind(m.from) != 'p') {
            s.append(letters.charAt("kqrbnigc".indexOf(p.kind(m.from))));
        }
        s.append((char) ('a' + p.column(m.from))).append(p.row(m.from) + 1);
        s.append(m.victim < 0 ? '-' : 'x');
        s.append((char) ('a' + p.column(m.to))).append(p.row(m.to) + 1);
        if (m.becomes != 0) {
            s.append('=').append(letters.charAt("kqrbnigc".indexOf(m.becomes)));
        }
        Pos then = after(p, m);
        if (isSo(then, 1 - side, '#')) {
            s.append('#');
        } else if (isChecked(then, 1 - side)) {
            s.append('+');
        }
        return s.toString();
    }

    int told(int index, int tongue) {
        Move m = needMove(index);
        if (tongue < 0 || tongue > 1) {
            throw new IllegalArgumentException();
        }
        return text(m, tongue).length();
    }

    char sign(int index, int tongue, int place) {
        int many = told(index, tongue);
        if (place < 0 || place >= many) {
            throw new IndexOutOfBoundsException();
        }
        return text(needMove(index), tongue).charAt(place);
    }

    int problem(char k, int n, char a) {
        if ("dshz".indexOf(k) < 0 || "#=".indexOf(a) < 0 || n < 1 || n > (k == 'z' ? 3 : 2)) {
            throw new IllegalArgumentException();
        }
        int before = length;
        kind = k;
        length = n;
        aim = a;
        return before;
    }

    Pos forProblem(int mover) {
        Pos p = new Pos(columns, rows, men.clone(), mover, conditions);
        if (proven >= 0 && side == mover) {
            p.passed.add(proven);
        }
        return p;
    }

    boolean isWide() {
        return length >= 2 && lawful(forProblem(0), 0).size() * lawful(forProblem(1), 1).size() > 200;
    }

    void needProblem() {
        if (length == 0) {
            throw new IllegalStateException();
        }
    }

    void needNarrow() {
        if (isWide()) {
            throw new UnsupportedOperationException();
        }
    }

    boolean reachesAim(Pos then) {
        return isSo(then, then.side, aim);
    }

    boolean whiteHasAim(Pos p) {
        return aims(p) > 0;
    }

    int aims(Pos p) {
        int many = 0;
        for (Move m : lawful(p, 0)) {
            many += reachesAim(after(p, m)) ? 1 : 0;
        }
        return many;
    }

    /** The replies of black that spoil a first move; null if black cannot move. */
    List<Move> spoiling(Pos then, int n) {
        List<Move> replies = lawful(then, 1);
        if (replies.isEmpty()) {
            return null;
        }
        List<Move> bad = new ArrayList<>();
        for (Move reply : replies) {
            Pos next = after(then, reply);
            boolean isGood;
            if (kind == 'd') {
                isGood = n == 2 && whiteHasAim(next);
            } else {
                isGood = reachesAim(next) || (n == 2 && hasSelfIn1(next));
            }
            if (!isGood) {
                bad.add(reply);
            }
        }
        return bad;
    }

    boolean hasSelfIn1(Pos p) {
        for (Move m : lawful(p, 0)) {
            List<Move> bad = spoiling(after(p, m), 1);
            if (bad != null && bad.isEmpty()) {
                return true;
            }
        }
        return false;
    }

    boolean solves(Pos p, Move m, int n) {
        Pos then = after(p, m);
        if (kind == 'd' && reachesAim(then)) {
            return true;
        }
        List<Move> bad = spoiling(then, n);
        return bad != null && bad.isEmpty() && (kind == 's' || n == 2);
    }

    List<Move[]> rowsOfSolutions() {
        List<Move[]> out = new ArrayList<>();
        if (kind == 'd' || kind == 's') {
            Pos p = forProblem(0);
            for (Move m : lawful(p, 0)) {
                if (solves(p, m, length)) {
                    out.add(new Move[] {m});
                }
            }
        } else {
            grow(forProblem(kind == 'h' ? 1 : 0), new Move[kind == 'h' ? 2 * length : length], 0, out);
        }
        return out;
    }

    void grow(Pos p, Move[] row, int ply, List<Move[]> out) {
        for (Move m : lawful(p, p.side)) {
            row[ply] = m;
            Pos then = after(p, m);
            if (ply == row.length - 1) {
                if (reachesAim(then)) {
                    out.add(row.clone());
                }
            } else if (kind == 'h') {
                grow(then, row, ply + 1, out);
            } else if (!isChecked(then, 1)) {
                grow(then.withSide(0), row, ply + 1, out);
            }
        }
    }

    int solutions() {
        needProblem();
        needNarrow();
        return rowsOfSolutions().size();
    }

    int solved(int solution, int ply, char what) {
        needProblem();
        needNarrow();
        List<Move[]> all = rowsOfSolutions();
        if (solution < 0 || solution >= all.size() || ply < 0 || ply >= all.get(solution).length) {
            throw new NoSuchElementException();
        }
        Move m = all.get(solution)[ply];
        return thing(m.from, m.to, m.becomes, -1, what);
    }

    List<Move[]> triesWithRefutations() {
        List<Move[]> out = new ArrayList<>();
        if (length != 2) {
            return out;
        }
        Pos p = forProblem(0);
        for (Move m : lawful(p, 0)) {
            List<Move> bad = solves(p, m, 2) ? null : spoiling(after(p, m), 2);
            if (bad != null && bad.size() == 1) {
                out.add(new Move[] {m, bad.get(0)});
            }
        }
        return out;
    }

    int tries() {
        needProblem();
        if (kind == 'h' || kind == 'z') {
            throw new UnsupportedOperationException();
        }
        needNarrow();
        return triesWithRefutations().size();
    }

    int tried(int index, boolean isRefutation) {
        int many = tries();
        if (index < 0 || index >= many) {
            throw new NoSuchElementException();
        }
        Move m = triesWithRefutations().get(index)[isRefutation ? 1 : 0];
        return 100 * m.from + m.to;
    }

    int duals(int key) {
        needProblem();
        if (kind != 'd' || length != 2) {
            throw new UnsupportedOperationException();
        }
        needNarrow();
        List<Move[]> all = rowsOfSolutions();
        if (key < 0 || key >= all.size()) {
            throw new NoSuchElementException();
        }
        Pos then = after(forProblem(0), all.get(key)[0]);
        int many = 0;
        for (Move reply : lawful(then, 1)) {
            many += aims(after(then, reply)) >= 2 ? 1 : 0;
        }
        return many;
    }

    boolean isPossible() {
        return possible(now());
    }

    boolean possible(Pos p) {
        for (int s = 0; s < 2; s++) {
            int[] many = new int[9];
            for (int cell = 0; cell < p.cells(); cell++) {
                if (p.has(cell, s)) {
                    many[KINDS.indexOf(p.kind(cell))]++;
                }
            }
            int pawnsNeeded = many[8];
            for (int k = 0; k < 8; k++) {
                int beyond = Math.max(0, many[k] - armies[s][k]);
                if (beyond > 0 && (k < 1 || k > 4)) {
                    return false;
                }
                pawnsNeeded += beyond;
            }
            if (pawnsNeeded > armies[s][8]) {
                return false;
            }
        }
        return !isChecked(p, 1 - p.side);
    }

    List<Last> lastMoves() {
        List<Last> all = new ArrayList<>();
        int mover = 1 - side;
        Pos p = now();
        for (int to = 0; to < men.length; to++) {
            for (int from = 0; from < men.length && p.has(to, mover); from++) {
                if (men[from] != '.') {
                    continue;
                }
                List<Character> kinds = new ArrayList<>(List.of(p.kind(to)));
                if (p.kind(to) != 'p') {
                    kinds.add('p');
                }
                for (char k : kinds) {
                    for (char caught : "\0qrbnigcp".toCharArray()) {
                        lookBack(all, from, to, k, caught, false);
                    }
                    lookBack(all, from, to, k, 'p', true);
                }
            }
        }
        return all;
    }

    void lookBack(List<Last> all, int from, int to, char k, char caught, boolean passing) {
        int mover = 1 - side;
        char[] before = men.clone();
        before[to] = '.';
        before[from] = manOf(k, mover);
        int up = mover == 0 ? columns : -columns;
        int stood = passing ? to - up : to;
        if (passing) {
            int home = to + up;
            boolean is = k == 'p' && rows >= 5 && stood >= 0 && stood < men.length && home >= 0 && home < men.length
                && before[stood] == '.' && before[home] == '.' && home / columns == (mover == 0 ? rows - 2 : 1);
            if (!is) {
                return;
            }
        }
        if (caught != 0) {
            before[stood] = manOf(caught, side);
        }
        for (int cell = 0; cell < men.length; cell++) {
            int row = cell / columns;
            if (Character.toLowerCase(before[cell]) == 'p' && (row == 0 || row == rows - 1)) {
                return;
            }
        }
        Pos p = new Pos(columns, rows, before, mover, conditions);
        if (passing) {
            p.passed.add(to);
        }
        if (tryGo(p, from, to) == -2 || !possible(p)) {
            return;
        }
        for (Move m : lawful(p, mover)) {
            if (m.from == from && m.to == to && Arrays.equals(after(p, m).men, men)) {
                all.add(new Last(from, to, k, caught, passing));
            }
        }
    }

    int lasts() {
        return lastMoves().size();
    }

    int lastAt(int index, char what) {
        List<Last> all = lastMoves();
        if (index < 0 || index >= all.size()) {
            throw new NoSuchElementException();
        }
        Last l = all.get(index);
        switch (what) {
            case 'f':
                return l.from;
            case 't':
                return l.to;
            case 'k':
                return l.kind;
            case 'c':
                return l.caught;
            case 'e':
                return l.passing ? 1 : 0;
            default:
                throw new IllegalArgumentException();
        }
    }

    int prove() {
        List<Last> all = lastMoves();
        TreeSet<Integer> over = new TreeSet<>();
        for (Last l : all) {
            boolean isTwo = l.kind == 'p' && Math.abs(l.to - l.from) == 2 * columns;
            over.add(isTwo ? (l.from + l.to) / 2 : -1 - over.size());
        }
        if (over.size() != 1 || over.first() < 0) {
            throw new NoSuchElementException();
        }
        proven = over.first();
        return proven;
    }

    int array() {
        kept = men.clone();
        keptSide = side;
        return many();
    }

    int games(int halves) {
        if (halves < 0 || halves > 4) {
            throw new IllegalArgumentException();
        }
        if (kept == null) {
            throw new IllegalStateException();
        }
        return walk(new Pos(columns, rows, kept, keptSide, conditions), halves);
    }

    int walk(Pos p, int left) {
        if (left == 0) {
            return Arrays.equals(p.men, men) && p.side == side ? 1 : 0;
        }
        int sum = 0;
        for (Move m : lawful(p, p.side)) {
            sum += walk(after(p, m), left - 1);
        }
        return sum;
    }

    int enter(int points, int year) {
        if (points < 0 || points > 100 || year < 0 || year > 99) {
            throw new IllegalArgumentException();
        }
        if (entries.size() == 12) {
            throw new IllegalStateException();
        }
        entries.add(new Entry(columns, rows, men.clone(), points, year, new boolean[2]));
        return entries.size() - 1;
    }

    Entry needEntry(int entry) {
        if (entry < 0 || entry >= entries.size()) {
            throw new IndexOutOfBoundsException();
        }
        return entries.get(entry);
    }

    boolean cook(int entry) {
        Entry e = needEntry(entry);
        boolean was = e.flags[0];
        e.flags[0] = true;
        return !was;
    }

    int like(int entry, int other) {
        Entry a = needEntry(entry);
        Entry b = needEntry(other);
        if (a.columns != b.columns || a.rows != b.rows) {
            return 0;
        }
        int same = 0;
        for (int cell = 0; cell < a.men.length; cell++) {
            same += a.men[cell] != '.' && a.men[cell] == b.men[cell] ? 1 : 0;
        }
        return same;
    }

    int anticipated(int entry, int least) {
        needEntry(entry);
        if (least < 1 || least > 10) {
            throw new IllegalArgumentException();
        }
        for (int year = 0; year < entries.get(entry).year; year++) {
            for (int other = 0; other < entries.size(); other++) {
                if (entries.get(other).year == year && like(entry, other) >= least) {
                    return other;
                }
            }
        }
        throw new NoSuchElementException();
    }

    List<Integer> awardList() {
        List<Integer> all = new ArrayList<>();
        for (int points = 100; points >= 0; points--) {
            for (int year = 0; year < 100; year++) {
                for (int e = 0; e < entries.size(); e++) {
                    Entry entry = entries.get(e);
                    if (entry.points == points && entry.year == year && !entry.flags[0] && !entry.flags[1]) {
                        all.add(e);
                    }
                }
            }
        }
        return all;
    }

    int award(int place) {
        List<Integer> all = awardList();
        if (place < 0 || place >= all.size()) {
            throw new NoSuchElementException();
        }
        return all.get(place);
    }

    int withdraw(int year) {
        if (year < 0 || year > 99) {
            throw new IllegalArgumentException();
        }
        int before = awardList().size();
        for (Entry e : entries) {
            e.flags[1] |= e.year == year;
        }
        return before - awardList().size();
    }

    long checksum() {
        long sum = 7;
        for (char man : men) {
            sum = 31 * sum + man;
        }
        return sum;
    }

    float mobility() {
        TreeSet<Integer> goals = new TreeSet<>();
        for (Move m : list()) {
            goals.add(m.to);
        }
        return (float) goals.size() / (float) men.length;
    }

    double meanPoints() {
        List<Integer> all = awardList();
        if (all.isEmpty()) {
            throw new NoSuchElementException();
        }
        int sum = 0;
        for (int e : all) {
            sum += entries.get(e).points;
        }
        return (double) sum / (double) all.size();
    }

    boolean isSound() {
        return true;
    }
}
