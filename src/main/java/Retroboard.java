import java.util.NoSuchElementException;

/**
 * A bench for chess problems on small boards. What each call promises is told in shared/DOC.md.
 */
public final class Retroboard {
    private static final int KING = 1;
    private static final int QUEEN = 2;
    private static final int ROOK = 3;
    private static final int BISHOP = 4;
    private static final int KNIGHT = 5;
    private static final int HOPPER = 7;
    private static final int PAWN = 9;
    /** The letter of a kind stands at its number; 0 is no kind. */
    private static final String KINDS = ".kqrbnigcp";
    /** A man's code is twice its kind plus its side, so every code is below this. */
    private static final int CODES = 20;

    private static final int MOST_CELLS = 36;
    private static final int MOST_MEN = 10;
    /** Ten queens of one side go to fewer cells than this. */
    private static final int MOST_MOVES = 256;
    private static final int MOST_CALLS = 512;
    private static final int MOST_ENTRIES = 12;
    /** What a solver, a game or a telling may lay upon the moves already made. */
    private static final int SEARCH_DEPTH = 8;
    private static final int WIDEST = 200;

    private final Plan plan;
    private final Place place;
    private final Place copy;
    private final Solver solver;
    private final Past past;
    private final Road road;
    private final Teller teller;
    private final Tourney tourney;
    private final int[] list;

    public Retroboard() {
        plan = new Plan();
        plan.lay(5, 5);
        place = new Place(plan, MOST_CALLS + SEARCH_DEPTH);
        copy = new Place(plan, 0);
        solver = new Solver(plan);
        past = new Past(plan);
        road = new Road(plan);
        teller = new Teller();
        tourney = new Tourney();
        list = new int[MOST_MOVES];
    }

    // Boards and men.

    public int board(int columns, int rows) throws IllegalArgumentException {
        if (columns < 3 || columns > 6 || rows < 3 || rows > 6) {
            throw new IllegalArgumentException("a board has 3 to 6 columns and rows");
        }
        plan.lay(columns, rows);
        place.clear();
        road.drop();
        solver.drop();
        return plan.cells;
    }

    public int man(char kind, int side, int cell) throws IndexOutOfBoundsException, IllegalArgumentException, UnsupportedOperationException, IllegalStateException {
        requireCell(cell);
        int wanted = kindOf(kind);
        if (wanted == 0 || !isSide(side) || (wanted == PAWN && plan.isOuterRow(cell))) {
            throw new IllegalArgumentException("no such man can stand there");
        }
        if (place.men[cell] != 0 || (wanted == KING && place.kings[side] >= 0)) {
            throw new UnsupportedOperationException("the cell is taken, or the side has a king");
        }
        if (place.count() >= MOST_MEN) {
            throw new IllegalStateException("there are as many men as can be");
        }
        place.put(cell, wanted * 2 + side);
        place.forget();
        return place.count();
    }

    public char lift(int cell) throws IndexOutOfBoundsException, NoSuchElementException {
        requireCell(cell);
        requireMan(cell);
        char letter = letterOf(place.men[cell]);
        place.loseMade(cell);
        place.take(cell);
        place.forget();
        return letter;
    }

    public char at(int cell) throws IndexOutOfBoundsException {
        requireCell(cell);
        return letterOf(place.men[cell]);
    }

    public int turn(int side) throws IllegalArgumentException {
        requireSide(side);
        int before = place.side;
        place.side = side;
        place.made = -1;
        place.proven = -1;
        return before;
    }

    public boolean condition(char letter, boolean is) throws IllegalArgumentException {
        boolean was;
        switch (letter) {
            case 'm':
                was = place.isMadrasi;
                place.isMadrasi = is;
                return was;
            case 'g':
                was = place.isGrid;
                place.isGrid = is;
                return was;
            case 'p':
                was = place.isPatrol;
                place.isPatrol = is;
                return was;
            default:
                throw new IllegalArgumentException("no such condition");
        }
    }

    public int army(char kind, int side, int many) throws IllegalArgumentException {
        int wanted = kindOf(kind);
        if (wanted == 0 || !isSide(side) || many < 0 || many > 9) {
            throw new IllegalArgumentException("no such part of an army");
        }
        int before = past.armies[wanted * 2 + side];
        past.armies[wanted * 2 + side] = many;
        return before;
    }

    // Moves.

    public int moves() {
        return place.list(place.side, list, MOST_MOVES);
    }

    public int moveAt(int index, char what) throws NoSuchElementException, IllegalArgumentException {
        int move = requireMove(index);
        switch (what) {
            case 'f':
                return fromOf(move);
            case 't':
                return toOf(move);
            case 'p':
                return becomesLetter(move);
            case 'x':
                return place.victimOf(fromOf(move), toOf(move)) >= 0 ? 1 : 0;
            default:
                throw new IllegalArgumentException("no such thing of a move");
        }
    }

    public char make(int index) throws NoSuchElementException {
        int move = requireMove(index);
        if (place.depth >= MOST_CALLS) {
            place.depth = 0;
        }
        int victim = place.victimOf(fromOf(move), toOf(move));
        char letter = victim < 0 ? '.' : letterOf(place.men[victim]);
        place.apply(move);
        return letter;
    }

    public int undo() throws NoSuchElementException {
        if (place.depth == 0) {
            throw new NoSuchElementException("no move is made");
        }
        place.revert();
        return place.depth;
    }

    public boolean isCheck(int side) throws IllegalArgumentException {
        requireSide(side);
        return place.isChecked(side);
    }

    public boolean isAim(char aim) throws IllegalArgumentException {
        if (aim != '#' && aim != '=') {
            throw new IllegalArgumentException("no such aim");
        }
        return place.isStuck(place.side, aim == '#', list);
    }

    public int reach(int cell, boolean isStruck) throws IndexOutOfBoundsException, NoSuchElementException {
        requireCell(cell);
        requireMan(cell);
        long cells = isStruck ? place.strikesOf(cell) : place.reachOf(cell);
        return (int) (cells % 1000003L);
    }

    public boolean isPure() {
        return place.isStuck(place.side, true, list) && place.areFlightsPure(place.side);
    }

    public int told(int index, int tongue) throws NoSuchElementException, IllegalArgumentException {
        int move = requireMove(index);
        requireTongue(tongue);
        return teller.write(place, move, tongue);
    }

    public char sign(int index, int tongue, int place) throws NoSuchElementException, IllegalArgumentException, IndexOutOfBoundsException {
        int move = requireMove(index);
        requireTongue(tongue);
        int count = teller.write(this.place, move, tongue);
        if (place < 0 || place >= count) {
            throw new IndexOutOfBoundsException("no such sign");
        }
        return teller.signs[place];
    }

    // Problems.

    public int problem(char kind, int moves, char aim) throws IllegalArgumentException {
        boolean isKind = kind == 'd' || kind == 's' || kind == 'h' || kind == 'z';
        if (!isKind || (aim != '#' && aim != '=') || moves < 1 || moves > (kind == 'z' ? 3 : 2)) {
            throw new IllegalArgumentException("no such problem");
        }
        int before = solver.length;
        solver.kind = kind;
        solver.length = moves;
        solver.isMate = aim == '#';
        return before;
    }

    public int solutions() throws IllegalStateException, UnsupportedOperationException {
        requireProblem();
        requireNarrow();
        return solver.search(place, -1);
    }

    public int solved(int solution, int ply, char what) throws IllegalStateException, UnsupportedOperationException, NoSuchElementException, IllegalArgumentException {
        requireProblem();
        requireNarrow();
        if (solution < 0 || ply < 0 || ply >= solver.pliesTold() || solver.search(place, solution) <= solution) {
            throw new NoSuchElementException("no such solution or move");
        }
        int move = solver.isOfKeys() ? solver.keys[solution] : solver.found[ply];
        switch (what) {
            case 'f':
                return fromOf(move);
            case 't':
                return toOf(move);
            case 'p':
                return becomesLetter(move);
            default:
                throw new IllegalArgumentException("no such thing of a move");
        }
    }

    public int tries() throws IllegalStateException, UnsupportedOperationException {
        requireProblem();
        requireKeys();
        requireNarrow();
        solver.search(place, -1);
        return solver.tryCount;
    }

    public int tried(int index, boolean isRefutation) throws IllegalStateException, UnsupportedOperationException, NoSuchElementException {
        requireProblem();
        requireKeys();
        requireNarrow();
        solver.search(place, -1);
        if (index < 0 || index >= solver.tryCount) {
            throw new NoSuchElementException("no such try");
        }
        int move = isRefutation ? solver.refutations[index] : solver.missed[index];
        return 100 * fromOf(move) + toOf(move);
    }

    public int duals(int key) throws IllegalStateException, UnsupportedOperationException, NoSuchElementException {
        requireProblem();
        if (solver.kind != 'd' || solver.length != 2) {
            throw new UnsupportedOperationException("the problem has no duals");
        }
        requireNarrow();
        if (key < 0 || key >= solver.search(place, -1)) {
            throw new NoSuchElementException("no such key");
        }
        return solver.countDuals(solver.keys[key]);
    }

    // History.

    public boolean isPossible() {
        return past.isAllowed(place);
    }

    public int lasts() {
        return past.gather(place);
    }

    public int lastAt(int index, char what) throws NoSuchElementException, IllegalArgumentException {
        if (index < 0 || index >= past.gather(place)) {
            throw new NoSuchElementException("no such last move");
        }
        int last = past.found[index];
        switch (what) {
            case 'f':
                return fromOf(last);
            case 't':
                return toOf(last);
            case 'k':
                return KINDS.charAt(Past.kindIn(last));
            case 'c':
                return Past.caughtIn(last) == 0 ? 0 : KINDS.charAt(Past.caughtIn(last));
            case 'e':
                return Past.isPassing(last) ? 1 : 0;
            default:
                throw new IllegalArgumentException("no such thing of a last move");
        }
    }

    public int prove() throws NoSuchElementException {
        past.gather(place);
        int over = past.passedCell();
        if (over < 0) {
            throw new NoSuchElementException("en passant is not proved");
        }
        place.proven = over;
        return over;
    }

    public int array() {
        road.keep(place);
        return place.count();
    }

    public int games(int halves) throws IllegalArgumentException, IllegalStateException {
        if (halves < 0 || halves > 4) {
            throw new IllegalArgumentException("a game has 0 to 4 half moves");
        }
        if (!road.isKept) {
            throw new IllegalStateException("no array is kept");
        }
        return road.count(place, halves);
    }

    // Tourneys.

    public int enter(int points, int year) throws IllegalArgumentException, IllegalStateException {
        if (points < 0 || points > 100 || year < 0 || year > 99) {
            throw new IllegalArgumentException("no such points or year");
        }
        if (tourney.count >= MOST_ENTRIES) {
            throw new IllegalStateException("there are as many entries as can be");
        }
        return tourney.add(place, points, year);
    }

    public boolean cook(int entry) throws IndexOutOfBoundsException {
        requireEntry(entry);
        boolean wasSound = !tourney.isCooked[entry];
        tourney.isCooked[entry] = true;
        return wasSound;
    }

    public int like(int entry, int other) throws IndexOutOfBoundsException {
        requireEntry(entry);
        requireEntry(other);
        return tourney.likeness(entry, other);
    }

    public int anticipated(int entry, int least) throws IndexOutOfBoundsException, IllegalArgumentException, NoSuchElementException {
        requireEntry(entry);
        if (least < 1 || least > 10) {
            throw new IllegalArgumentException("the least number is 1 to 10");
        }
        int first = tourney.firstLike(entry, least);
        if (first < 0) {
            throw new NoSuchElementException("it is not anticipated");
        }
        return first;
    }

    public int award(int place) throws NoSuchElementException {
        int entry = tourney.placed(place);
        if (entry < 0) {
            throw new NoSuchElementException("no such place in the award");
        }
        return entry;
    }

    public int withdraw(int year) throws IllegalArgumentException {
        if (year < 0 || year > 99) {
            throw new IllegalArgumentException("no such year");
        }
        return tourney.takeOut(year);
    }

    // Figures.

    public long checksum() {
        long sum = 7;
        for (int cell = 0; cell < plan.cells; cell++) {
            sum = 31 * sum + letterOf(place.men[cell]);
        }
        return sum;
    }

    public float mobility() {
        int count = place.list(place.side, list, MOST_MOVES);
        long goals = 0;
        for (int i = 0; i < count; i++) {
            goals |= 1L << toOf(list[i]);
        }
        return (float) Long.bitCount(goals) / (float) plan.cells;
    }

    public double meanPoints() throws NoSuchElementException {
        int many = tourney.awarded();
        if (many == 0) {
            throw new NoSuchElementException("no entry is in the award");
        }
        return (double) tourney.awardedPoints() / (double) many;
    }

    public boolean isSound() {
        boolean is = areMovesUndone();
        int count = past.gather(place);
        for (int i = 0; i < count && is; i++) {
            is = past.leadsTo(place, i);
        }
        if (is && solver.length > 0 && !solver.isTooWide(place)) {
            solver.search(place, -1);
            is = solver.areFirstsLawful(place);
        }
        return is;
    }

    private boolean areMovesUndone() {
        int count = place.list(place.side, list, MOST_MOVES);
        copy.copyFrom(place);
        for (int i = 0; i < count; i++) {
            place.apply(list[i]);
            place.revert();
            if (!place.isSameAs(copy)) {
                return false;
            }
        }
        return true;
    }

    // What calls ask for ahead of their work.

    private void requireCell(int cell) {
        if (cell < 0 || cell >= plan.cells) {
            throw new IndexOutOfBoundsException("no such cell");
        }
    }

    private void requireMan(int cell) {
        if (place.men[cell] == 0) {
            throw new NoSuchElementException("no man stands there");
        }
    }

    private void requireSide(int side) {
        if (!isSide(side)) {
            throw new IllegalArgumentException("no such side");
        }
    }

    private void requireTongue(int tongue) {
        if (tongue != 0 && tongue != 1) {
            throw new IllegalArgumentException("no such tongue");
        }
    }

    private int requireMove(int index) {
        int count = place.list(place.side, list, MOST_MOVES);
        if (index < 0 || index >= count) {
            throw new NoSuchElementException("no such move");
        }
        return list[index];
    }

    private void requireProblem() {
        if (solver.length == 0) {
            throw new IllegalStateException("no problem is told");
        }
    }

    private void requireKeys() {
        if (!solver.isOfKeys()) {
            throw new UnsupportedOperationException("the problem has no tries");
        }
    }

    private void requireNarrow() {
        if (solver.isTooWide(place)) {
            throw new UnsupportedOperationException("the problem is too wide");
        }
    }

    private void requireEntry(int entry) {
        if (entry < 0 || entry >= tourney.count) {
            throw new IndexOutOfBoundsException("no such entry");
        }
    }

    private static boolean isSide(int side) {
        return side == 0 || side == 1;
    }

    /** The number of a kind, 0 if there is no such kind. */
    private static int kindOf(char letter) {
        int kind = KINDS.indexOf(letter);
        return kind < 0 ? 0 : kind;
    }

    private static char letterOf(int code) {
        char letter = KINDS.charAt(code >> 1);
        return code != 0 && (code & 1) == 0 ? (char) (letter - 32) : letter;
    }

    private static int becomesLetter(int move) {
        return becomesOf(move) == 0 ? 0 : KINDS.charAt(becomesOf(move));
    }

    // A move is one number: the cell from which, the cell to which, the kind that a pawn becomes.

    private static int moveOf(int from, int to, int becomes) {
        return from | to << 6 | becomes << 12;
    }

    private static int fromOf(int move) {
        return move & 63;
    }

    private static int toOf(int move) {
        return move >> 6 & 63;
    }

    private static int becomesOf(int move) {
        return move >> 12 & 15;
    }

    /** The cells of a board and how steps lead from one to the next. */
    private static final class Plan {
        static final int ALL = 24;
        /** Up and down come first, then the other rows' and columns' steps, diagonals, knight's and camel's steps. */
        private static final int[] ROW_STEPS = {
            1, -1, 0, 0, 1, 1, -1, -1, 1, 1, 2, 2, -1, -1, -2, -2, 1, 1, 3, 3, -1, -1, -3, -3};
        private static final int[] COLUMN_STEPS = {
            0, 0, -1, 1, -1, 1, -1, 1, -2, 2, -1, 1, -2, 2, -1, 1, -3, 3, -1, 1, -3, 3, -1, 1};

        int columns;
        int rows;
        int cells;
        final int[] rowOf = new int[MOST_CELLS];
        /** The cell behind a step, at MOST_CELLS times the direction plus the cell; -1 off the board. */
        final int[] next = new int[ALL * MOST_CELLS];
        /** All cells of the block of two columns and two rows in which a cell is. */
        final long[] block = new long[MOST_CELLS];

        void lay(int columns, int rows) {
            this.columns = columns;
            this.rows = rows;
            cells = columns * rows;
            for (int row = 0; row < rows; row++) {
                for (int column = 0; column < columns; column++) {
                    int cell = row * columns + column;
                    rowOf[cell] = row;
                    block[cell] = blockOf(row & ~1, column & ~1);
                    for (int way = 0; way < ALL; way++) {
                        next[way * MOST_CELLS + cell] = cellOf(row + ROW_STEPS[way], column + COLUMN_STEPS[way]);
                    }
                }
            }
        }

        private int cellOf(int row, int column) {
            boolean isOff = row < 0 || row >= rows || column < 0 || column >= columns;
            return isOff ? -1 : row * columns + column;
        }

        private long blockOf(int firstRow, int firstColumn) {
            long mask = 0;
            for (int i = 0; i < 4; i++) {
                int cell = cellOf(firstRow + (i >> 1), firstColumn + (i & 1));
                mask |= cell < 0 ? 0 : 1L << cell;
            }
            return mask;
        }

        boolean isOuterRow(int cell) {
            return rowOf[cell] == 0 || rowOf[cell] == rows - 1;
        }

        int lastRow(int side) {
            return side == 0 ? rows - 1 : 0;
        }

        int secondRow(int side) {
            return side == 0 ? 1 : rows - 2;
        }

        /** The cell right behind another one, for a pawn of a side; -1 off the board. */
        int behind(int cell, int side) {
            return next[(1 - side) * MOST_CELLS + cell];
        }
    }

    /** A position: the men, the side that moves, conditions, what can be captured en passant, moves applied. */
    private static final class Place {
        /** The first and the last direction in which a kind goes; a pawn's depend on its side. */
        private static final int[] FIRST_WAY = {0, 0, 0, 0, 4, 8, 8, 0, 16, 4};
        private static final int[] LAST_WAY = {-1, 7, 7, 3, 7, 15, 15, 7, 23, 5};
        private static final int[] LONGEST = {0, 1, 6, 6, 6, 1, 6, 0, 1, 1};

        final Plan plan;
        final int[] men = new int[MOST_CELLS];
        /** The cells of the men of each side. */
        final long[] own = new long[2];
        final int[] kings = {-1, -1};
        int side;
        /** The cell over which a pawn has gone by two cells, by the move just made, -1 for none. */
        int made = -1;
        /** The same, as it was proved. */
        int proven = -1;
        boolean isMadrasi;
        boolean isGrid;
        boolean isPatrol;
        private final long[] applied;
        int depth;

        Place(Plan plan, int mostApplied) {
            this.plan = plan;
            applied = new long[mostApplied < 0 ? 0 : mostApplied];
        }

        void clear() {
            for (int cell = 0; cell < MOST_CELLS; cell++) {
                men[cell] = 0;
            }
            own[0] = 0;
            own[1] = 0;
            kings[0] = -1;
            kings[1] = -1;
            side = 0;
            made = -1;
            isMadrasi = false;
            isGrid = false;
            isPatrol = false;
            forget();
        }

        /** Behind a change by hand nothing can be undone, and nothing is proved. */
        void forget() {
            depth = 0;
            proven = -1;
        }

        /** With the pawn that went by two cells its capture en passant is gone, too. */
        void loseMade(int cell) {
            if (made >= 0 && plan.behind(made, side) == cell) {
                made = -1;
            }
        }

        void copyFrom(Place other) {
            layMen(other.men);
            side = other.side;
            made = other.made;
            proven = other.proven;
            copyConditions(other);
        }

        void copyConditions(Place other) {
            isMadrasi = other.isMadrasi;
            isGrid = other.isGrid;
            isPatrol = other.isPatrol;
        }

        /** Lays the men told, with nothing to be captured en passant and no moves applied. */
        void layMen(int[] codes) {
            clear();
            for (int cell = 0; cell < plan.cells && cell < codes.length; cell++) {
                if (codes[cell] != 0) {
                    put(cell, codes[cell]);
                }
            }
        }

        boolean isSameAs(Place other) {
            return areMenAs(other.men) && side == other.side && made == other.made && proven == other.proven;
        }

        boolean areMenAs(int[] codes) {
            for (int cell = 0; cell < plan.cells && cell < codes.length; cell++) {
                if (men[cell] != codes[cell]) {
                    return false;
                }
            }
            return true;
        }

        int count() {
            return Long.bitCount(own[0] | own[1]);
        }

        /** Puts a man on a free cell. */
        void put(int cell, int code) {
            men[cell] = code;
            own[code & 1] |= 1L << cell;
            if (code >> 1 == KING) {
                kings[code & 1] = cell;
            }
        }

        /** Takes the man off a cell, if there is one. */
        void take(int cell) {
            int code = men[cell];
            men[cell] = 0;
            own[code & 1] &= ~(1L << cell);
            if (code >> 1 == KING) {
                kings[code & 1] = -1;
            }
        }

        /** The cells that a man reaches, conditions aside. */
        long reachOf(int cell) {
            int kind = men[cell] >> 1;
            if (kind == HOPPER) {
                return hopsOf(cell);
            }
            int turned = kind == PAWN ? 2 * (men[cell] & 1) : 0;
            int last = LAST_WAY[kind] + turned;
            int longest = LONGEST[kind];
            long mask = 0;
            for (int way = FIRST_WAY[kind] + turned; way <= last; way++) {
                int to = plan.next[way * MOST_CELLS + cell];
                for (int n = 0; n < longest && to >= 0; n++) {
                    mask |= 1L << to;
                    to = men[to] == 0 ? plan.next[way * MOST_CELLS + to] : -1;
                }
            }
            return mask;
        }

        private long hopsOf(int cell) {
            long mask = 0;
            for (int way = 0; way < 8; way++) {
                int over = plan.next[way * MOST_CELLS + cell];
                for (int n = 0; n < 6 && over >= 0 && men[over] == 0; n++) {
                    over = plan.next[way * MOST_CELLS + over];
                }
                int to = over < 0 ? -1 : plan.next[way * MOST_CELLS + over];
                mask |= to < 0 ? 0 : 1L << to;
            }
            return mask;
        }

        /**
         * The men of a side that reach a cell; of one kind alone, if it is not 0. It looks from the cell in each
         * direction for the first man, and behind one that stands right beside it for a grasshopper.
         */
        long reachers(int cell, int by, int kind) {
            int pawnWay = by == 0 ? 6 : 4;
            long mask = 0;
            for (int way = 0; way < Plan.ALL; way++) {
                int base = way * MOST_CELLS;
                int first = plan.next[base + cell];
                int from = first;
                for (int n = 0; n < 6 && from >= 0 && men[from] == 0 && way < 16; n++) {
                    from = plan.next[base + from];
                }
                int code = from < 0 ? 0 : men[from];
                int its = code >> 1;
                if (code != 0 && (code & 1) == by && (kind == 0 || kind == its)) {
                    boolean isTowards = its == PAWN ? way == pawnWay || way == pawnWay + 1
                        : way >= FIRST_WAY[its] && way <= LAST_WAY[its];
                    mask |= isTowards && LONGEST[its] >= (from == first ? 1 : 2) ? 1L << from : 0;
                }
                if (code != 0 && from == first && way < 8 && (kind == 0 || kind == HOPPER)) {
                    from = plan.next[base + first];
                    for (int n = 0; n < 6 && from >= 0 && men[from] == 0; n++) {
                        from = plan.next[base + from];
                    }
                    mask |= from >= 0 && men[from] == HOPPER * 2 + by ? 1L << from : 0;
                }
            }
            return mask;
        }

        /** Whether a man can neither go nor strike, a like man of the other side reaching it. */
        private boolean isFrozen(int cell) {
            int code = men[cell];
            return isMadrasi && code >> 1 != KING && reachers(cell, 1 - (code & 1), code >> 1) != 0;
        }

        /** Whether a man can neither capture nor strike, no man of its side reaching it. */
        private boolean isLone(int cell) {
            return isPatrol && reachers(cell, men[cell] & 1, 0) == 0;
        }

        long strikesOf(int cell) {
            if (isFrozen(cell) || isLone(cell)) {
                return 0;
            }
            return isGrid ? reachOf(cell) & ~plan.block[cell] : reachOf(cell);
        }

        /** The men of a side that strike a cell. */
        long strikers(int cell, int by) {
            long mask = reachers(cell, by, 0);
            if (isGrid) {
                mask &= ~plan.block[cell];
            }
            if (mask == 0 || !(isMadrasi || isPatrol)) {
                return mask;
            }
            for (int from = 0; from < plan.cells; from++) {
                if ((mask >> from & 1) != 0 && (isFrozen(from) || isLone(from))) {
                    mask &= ~(1L << from);
                }
            }
            return mask;
        }

        boolean isChecked(int side) {
            return kings[side] >= 0 && strikers(kings[side], 1 - side) != 0;
        }

        /** Whether a side has no lawful move, its king being in check or not, as told. */
        boolean isStuck(int side, boolean isInCheck, int[] spare) {
            return isChecked(side) == isInCheck && list(side, spare, 1) == 0;
        }

        /** Cells to which a man could go, its own king's safety aside. */
        long goalsOf(int from) {
            if (isFrozen(from)) {
                return 0;
            }
            int side = men[from] & 1;
            boolean isCapturing = !isLone(from);
            long foes = isCapturing ? own[1 - side] : 0;
            if (kings[1 - side] >= 0) {
                foes &= ~(1L << kings[1 - side]);
            }
            long goals = reachOf(from) & (foes | ~(own[0] | own[1]));
            if (men[from] >> 1 == PAWN) {
                goals &= foes | (isCapturing ? passable(made, side) | passable(proven, side) : 0);
                goals |= aheadOf(from);
            }
            return isGrid ? goals & ~plan.block[from] : goals;
        }

        /** The cell told, if a pawn of a side can go there en passant as far as the men stand. */
        private long passable(int over, int side) {
            int behind = over < 0 ? -1 : plan.behind(over, side);
            return behind >= 0 && men[over] == 0 && men[behind] == PAWN * 2 + 1 - side ? 1L << over : 0;
        }

        /** Free cells straight ahead of a pawn. */
        long aheadOf(int from) {
            int side = men[from] & 1;
            int base = side * MOST_CELLS;
            int one = plan.next[base + from];
            if (one < 0 || men[one] != 0) {
                return 0;
            }
            int two = plan.next[base + one];
            boolean isTwo = plan.rows >= 5 && plan.rowOf[from] == plan.secondRow(side) && two >= 0 && men[two] == 0;
            return 1L << one | (isTwo ? 1L << two : 0);
        }

        /** Writes the lawful moves of a side in their order, as many as are wanted at most; returns how many. */
        int list(int mover, int[] out, int most) {
            int wanted = Math.min(most, out.length);
            int count = 0;
            for (int from = 0; from < plan.cells; from++) {
                if ((own[mover] >> from & 1) == 0) {
                    continue;
                }
                long goals = goalsOf(from);
                for (int to = 0; to < plan.cells; to++) {
                    if ((goals >> to & 1) == 0) {
                        continue;
                    }
                    boolean isBecoming = becomes(from, to);
                    int last = isBecoming ? KNIGHT : 0;
                    for (int kind = isBecoming ? QUEEN : 0; kind <= last; kind++) {
                        int move = moveOf(from, to, kind);
                        apply(move);
                        boolean isLawful = kings[mover] < 0 || strikers(kings[mover], 1 - mover) == 0;
                        revert();
                        if (isLawful && count < wanted) {
                            out[count++] = move;
                        }
                        if (count >= wanted) {
                            return count;
                        }
                    }
                }
            }
            return count;
        }

        boolean becomes(int from, int to) {
            return men[from] >> 1 == PAWN && plan.rowOf[to] == plan.lastRow(men[from] & 1);
        }

        /** The cell of the man that a move captures, -1 if it captures none. */
        int victimOf(int from, int to) {
            if (men[to] != 0) {
                return to;
            }
            int way = Math.abs(to - from);
            boolean isAslant = men[from] >> 1 == PAWN && way != plan.columns && way != 2 * plan.columns;
            return isAslant ? plan.behind(to, men[from] & 1) : -1;
        }

        /** Makes a move; the other side moves then. */
        void apply(int move) {
            if (depth >= applied.length) {
                return;
            }
            int from = fromOf(move);
            int to = toOf(move);
            int code = men[from];
            int victim = victimOf(from, to);
            int caught = victim < 0 ? 0 : men[victim];
            applied[depth++] = move | (long) code << 16 | (long) caught << 21 | (long) (victim + 1) << 26
                | (long) (made + 1) << 32 | (long) (proven + 1) << 38 | (long) side << 44;
            if (victim >= 0) {
                take(victim);
            }
            take(from);
            put(to, becomesOf(move) == 0 ? code : becomesOf(move) * 2 + (code & 1));
            boolean isTwo = code >> 1 == PAWN && Math.abs(to - from) == 2 * plan.columns;
            made = isTwo ? (from + to) / 2 : -1;
            proven = -1;
            side = 1 - (code & 1);
        }

        /** Takes the last move back. */
        void revert() {
            if (depth <= 0) {
                return;
            }
            long was = applied[--depth];
            int victim = (int) (was >> 26 & 63) - 1;
            take(toOf((int) (was & 65535)));
            put(fromOf((int) (was & 65535)), (int) (was >> 16 & 31));
            if (victim >= 0) {
                put(victim, (int) (was >> 21 & 31));
            }
            made = (int) (was >> 32 & 63) - 1;
            proven = (int) (was >> 38 & 63) - 1;
            side = (int) (was >> 44 & 1);
        }

        /** Whether the cells next to a king are as a pure mate asks; the king is off the board meanwhile. */
        boolean areFlightsPure(int side) {
            int king = kings[side];
            if (king < 0) {
                return false;
            }
            int code = men[king];
            take(king);
            boolean is = true;
            for (int way = 0; way < 8; way++) {
                int cell = plan.next[way * MOST_CELLS + king];
                if (cell >= 0) {
                    int due = (own[side] >> cell & 1) != 0 ? 0 : 1;
                    is = is && Long.bitCount(strikers(cell, 1 - side)) == due;
                }
            }
            put(king, code);
            return is;
        }
    }

    /** A problem, and its solutions in a position. */
    private static final class Solver {
        private static final int MOST_PLIES = 5;
        /** As many replies that refute as make a first move neither a key nor a try. */
        private static final int TOO_MANY = 2;

        /** How many moves the problem has, 0 without one. */
        int length;
        char kind;
        boolean isMate;
        private final Place work;
        private final int[][] lists = new int[MOST_PLIES][MOST_MOVES];
        private final int[] spare = new int[1];
        /** The keys; of rows, their first moves, each once. */
        final int[] keys = new int[MOST_MOVES];
        private int keyCount;
        final int[] missed = new int[MOST_MOVES];
        final int[] refutations = new int[MOST_MOVES];
        int tryCount;
        private int refutation;
        private final int[] row = new int[MOST_PLIES];
        /** The row that was looked for. */
        final int[] found = new int[MOST_PLIES];
        private int toSkip;
        private boolean isFound;

        Solver(Plan plan) {
            work = new Place(plan, SEARCH_DEPTH);
        }

        void drop() {
            length = 0;
        }

        boolean isOfKeys() {
            return kind == 'd' || kind == 's';
        }

        /** How many moves of a solution can be told. */
        int pliesTold() {
            return isOfKeys() ? 1 : plies();
        }

        private int plies() {
            return kind == 'h' ? 2 * length : length;
        }

        private int firstSide() {
            return kind == 'h' ? 1 : 0;
        }

        /** Only what was proved can be captured en passant in a problem, and only by the side that could do so. */
        private void begin(Place place, int mover) {
            work.copyFrom(place);
            work.made = -1;
            if (place.side != mover) {
                work.proven = -1;
            }
        }

        boolean isTooWide(Place place) {
            if (length < 2) {
                return false;
            }
            begin(place, 0);
            int white = work.list(0, lists[0], MOST_MOVES);
            begin(place, 1);
            int black = work.list(1, lists[0], MOST_MOVES);
            return white * black > WIDEST;
        }

        /** Finds all keys and tries, or rows up to the one looked for, if any is; returns how many. */
        int search(Place place, int wanted) {
            begin(place, firstSide());
            keyCount = 0;
            tryCount = 0;
            if (!isOfKeys()) {
                toSkip = wanted;
                isFound = false;
                return rows(this, 0);
            }
            int[] firsts = lists[0];
            int count = work.list(0, firsts, MOST_MOVES);
            for (int i = 0; i < count; i++) {
                work.apply(firsts[i]);
                int bad = kind == 'd' && work.isStuck(1, isMate, spare) ? 0
                    : kind == 'd' && length < 2 ? TOO_MANY : refuted(this, length, 1);
                work.revert();
                if (bad == 0) {
                    keys[keyCount++] = firsts[i];
                } else if (bad == 1 && length == 2) {
                    missed[tryCount] = firsts[i];
                    refutations[tryCount++] = refutation;
                }
            }
            return keyCount;
        }

        /**
         * Counts the replies of black that refute what white has moved, TOO_MANY at most, and keeps the last of
         * them; TOO_MANY, too, if black cannot move.
         */
        private static int refuted(Solver s, int movesLeft, int ply) {
            if (movesLeft < 1 || ply + 1 >= MOST_PLIES) {
                return TOO_MANY;
            }
            int[] replies = s.lists[ply];
            int[] seconds = s.lists[ply + 1];
            int count = s.work.list(1, replies, MOST_MOVES);
            int bad = count == 0 ? TOO_MANY : 0;
            int kept = 0;
            for (int i = 0; i < count && bad < TOO_MANY; i++) {
                s.work.apply(replies[i]);
                boolean isGood = s.kind == 's' && s.work.isStuck(0, s.isMate, s.spare);
                int many = isGood || movesLeft < 2 ? 0 : s.work.list(0, seconds, MOST_MOVES);
                for (int k = 0; k < many && !isGood; k++) {
                    s.work.apply(seconds[k]);
                    isGood = s.kind == 'd' ? s.work.isStuck(1, s.isMate, s.spare)
                        : refuted(s, movesLeft - 1, ply + 2) == 0;
                    s.work.revert();
                }
                if (!isGood) {
                    bad++;
                    kept = replies[i];
                }
                s.work.revert();
            }
            s.refutation = kept;
            return bad;
        }

        /** Counts the rows of solutions that go on from the moves applied, until the one looked for is found. */
        private static int rows(Solver s, int ply) {
            int plies = s.plies();
            if (ply >= plies || ply >= MOST_PLIES) {
                return 0;
            }
            int mover = s.kind == 'h' && ply % 2 == 0 ? 1 : 0;
            int[] list = s.lists[ply];
            int count = s.work.list(mover, list, MOST_MOVES);
            int sum = 0;
            for (int i = 0; i < count && !s.isFound; i++) {
                s.row[ply] = list[i];
                s.work.apply(list[i]);
                if (ply == plies - 1) {
                    sum += s.work.isStuck(1, s.isMate, s.spare) ? s.noteRow() : 0;
                } else if (s.kind == 'h' || !s.work.isChecked(1)) {
                    sum += rows(s, ply + 1);
                }
                s.work.revert();
            }
            return sum;
        }

        private int noteRow() {
            if ((keyCount == 0 || keys[keyCount - 1] != row[0]) && keyCount < keys.length) {
                keys[keyCount++] = row[0];
            }
            if (toSkip == 0) {
                System.arraycopy(row, 0, found, 0, MOST_PLIES);
                isFound = true;
            }
            toSkip--;
            return 1;
        }

        /** Counts the duals behind a key of the problem that was searched last. */
        int countDuals(int key) {
            work.apply(key);
            int count = work.list(1, lists[1], MOST_MOVES);
            int duals = 0;
            for (int i = 0; i < count; i++) {
                work.apply(lists[1][i]);
                if (countAims(2) >= 2) {
                    duals++;
                }
                work.revert();
            }
            work.revert();
            return duals;
        }

        /** Counts white's moves that reach the aim, as many as are wanted at most. */
        private int countAims(int most) {
            int count = work.list(0, lists[2], MOST_MOVES);
            int aims = 0;
            for (int i = 0; i < count && aims < most; i++) {
                work.apply(lists[2][i]);
                if (work.isStuck(1, isMate, spare)) {
                    aims++;
                }
                work.revert();
            }
            return aims;
        }

        /** Whether the first moves of the solutions found last are lawful ones. */
        boolean areFirstsLawful(Place place) {
            begin(place, firstSide());
            int count = work.list(firstSide(), lists[0], MOST_MOVES);
            for (int k = 0; k < keyCount; k++) {
                boolean is = false;
                for (int i = 0; i < count; i++) {
                    is = is || lists[0][i] == keys[k];
                }
                if (!is) {
                    return false;
                }
            }
            return true;
        }
    }

    /** Armies, and the last moves that could have led to a position. */
    private static final class Past {
        /** Ten men, each from at most 19 cells, by nine captures, and promotions: fewer than this. */
        private static final int MOST_LASTS = 2048;

        /** How many men each side had, by code. */
        final int[] armies = {0, 0, 1, 1, 1, 1, 2, 2, 2, 2, 2, 2, 0, 0, 0, 0, 0, 0, 6, 6};
        private final int[] many = new int[CODES];
        private final Plan plan;
        private final Place work;
        /** Last moves: a move, the kind ahead of it, the kind captured, whether it was en passant. */
        final int[] found = new int[MOST_LASTS];
        private int count;

        Past(Plan plan) {
            this.plan = plan;
            work = new Place(plan, SEARCH_DEPTH);
        }

        static int kindIn(int last) {
            return last >> 16 & 15;
        }

        static int caughtIn(int last) {
            return last >> 20 & 15;
        }

        static boolean isPassing(int last) {
            return (last >> 24 & 1) != 0;
        }

        boolean isAllowed(Place place) {
            return hold(place) && !place.isChecked(1 - place.side);
        }

        /** Whether both armies allow the men of a position. */
        private boolean hold(Place place) {
            for (int code = 0; code < CODES; code++) {
                many[code] = 0;
            }
            for (int cell = 0; cell < plan.cells; cell++) {
                many[place.men[cell]]++;
            }
            return holds(0) && holds(1);
        }

        private boolean holds(int side) {
            int lacking = armies[PAWN * 2 + side] - many[PAWN * 2 + side];
            boolean is = lacking >= 0;
            for (int kind = KING; kind < PAWN; kind++) {
                int beyond = many[kind * 2 + side] - armies[kind * 2 + side];
                if (beyond > 0) {
                    is = is && isBecome(kind);
                    lacking -= beyond;
                }
            }
            return is && lacking >= 0;
        }

        private static boolean isBecome(int kind) {
            return kind >= QUEEN && kind <= KNIGHT;
        }

        /** Finds all last moves that could have led to a position; returns how many. */
        int gather(Place now) {
            count = 0;
            int mover = 1 - now.side;
            if (now.isChecked(mover)) {
                return 0;
            }
            work.copyFrom(now);
            work.made = -1;
            work.proven = -1;
            for (int to = 0; to < plan.cells; to++) {
                int code = work.men[to];
                if (code == 0 || (code & 1) != mover) {
                    continue;
                }
                boolean isPerhapsPawn = isBecome(code >> 1) && plan.rowOf[to] == plan.lastRow(mover);
                for (int from = 0; from < plan.cells; from++) {
                    if (work.men[from] != 0) {
                        continue;
                    }
                    takeBack(from, to, code);
                    if (isPerhapsPawn) {
                        takeBack(from, to, PAWN * 2 + mover);
                    }
                }
            }
            return count;
        }

        /** Notes the last moves by a man of the code told, from a free cell to the one where it stands now. */
        private void takeBack(int from, int to, int before) {
            boolean isPawn = before >> 1 == PAWN;
            if (isPawn && plan.isOuterRow(from)) {
                return;
            }
            int after = work.men[to];
            work.take(to);
            work.put(from, before);
            long near = work.reachOf(from) | (isPawn ? work.aheadOf(from) : 0);
            if ((near >> to & 1) != 0) {
                int other = 1 - (before & 1);
                noteIfLast(from, to, 0);
                for (int kind = QUEEN; kind <= (plan.isOuterRow(to) ? PAWN - 1 : PAWN); kind++) {
                    work.put(to, kind * 2 + other);
                    noteIfLast(from, to, kind);
                    work.take(to);
                }
                int stood = isPawn ? passedTo(from, to) : -1;
                if (stood >= 0) {
                    work.put(stood, PAWN * 2 + other);
                    work.made = to;
                    noteIfLast(from, to, PAWN);
                    work.made = -1;
                    work.take(stood);
                }
            }
            work.take(from);
            work.put(to, after);
        }

        /** The cell to which a pawn can have come by two cells, captured there en passant; -1 if it can't. */
        private int passedTo(int from, int to) {
            int side = work.men[from] & 1;
            int stood = plan.behind(to, side);
            int home = plan.behind(to, 1 - side);
            if (plan.rows < 5 || stood < 0 || home < 0 || (work.reachOf(from) >> to & 1) == 0) {
                return -1;
            }
            boolean isHome = plan.rowOf[home] == plan.secondRow(1 - side);
            return isHome && work.men[stood] == 0 && work.men[home] == 0 ? stood : -1;
        }

        /** Notes a move if it is lawful in the position before, laid out in work, and that is possible. */
        private void noteIfLast(int from, int to, int caught) {
            int code = work.men[from];
            boolean isLast = (work.goalsOf(from) >> to & 1) != 0 && !work.isChecked(1 - (code & 1)) && hold(work);
            if (isLast && count < MOST_LASTS) {
                int passing = work.made >= 0 ? 1 : 0;
                found[count++] = moveOf(from, to, 0) | code >> 1 << 16 | caught << 20 | passing << 24;
            }
        }

        /** The cell over which the pawn went that has made every last move, by two cells; -1 if there is none. */
        int passedCell() {
            int over = -1;
            for (int i = 0; i < count; i++) {
                int from = fromOf(found[i]);
                int to = toOf(found[i]);
                boolean isTwo = kindIn(found[i]) == PAWN && Math.abs(to - from) == 2 * plan.columns;
                if (!isTwo || toOf(found[0]) != to) {
                    return -1;
                }
                over = (from + to) / 2;
            }
            return over;
        }

        /** Whether a last move found in a position leads to it, made again. */
        boolean leadsTo(Place now, int index) {
            int from = fromOf(found[index]);
            int to = toOf(found[index]);
            int mover = 1 - now.side;
            int kind = kindIn(found[index]);
            int caught = caughtIn(found[index]);
            work.copyFrom(now);
            work.made = isPassing(found[index]) ? to : -1;
            work.proven = -1;
            int after = work.men[to] >> 1;
            work.take(to);
            work.put(from, kind * 2 + mover);
            int stood = isPassing(found[index]) ? plan.behind(to, mover) : to;
            if (caught != 0 && stood >= 0) {
                work.put(stood, caught * 2 + now.side);
            }
            boolean isLawful = (work.goalsOf(from) >> to & 1) != 0;
            work.apply(moveOf(from, to, after == kind ? 0 : after));
            return isLawful && work.side == now.side && work.areMenAs(now.men) && !work.isChecked(mover);
        }
    }

    /** The array, and the games that lead from it to a position. */
    private static final class Road {
        boolean isKept;
        private final int[] start = new int[MOST_CELLS];
        private int startSide;
        private final Plan plan;
        private final Place work;
        private final int[] goal = new int[MOST_CELLS];

        Road(Plan plan) {
            this.plan = plan;
            work = new Place(plan, SEARCH_DEPTH);
        }

        void drop() {
            isKept = false;
        }

        void keep(Place place) {
            System.arraycopy(place.men, 0, start, 0, MOST_CELLS);
            startSide = place.side;
            isKept = true;
        }

        int count(Place place, int halves) {
            if ((startSide + halves) % 2 != place.side) {
                return 0;
            }
            System.arraycopy(place.men, 0, goal, 0, MOST_CELLS);
            work.layMen(start);
            work.side = startSide;
            work.copyConditions(place);
            int off = 0;
            for (int cell = 0; cell < plan.cells; cell++) {
                off += start[cell] == goal[cell] ? 0 : 1;
            }
            return walk(this, halves, off);
        }

        /** Counts the games from the moves applied on, with so many cells still not as they are to be. */
        private static int walk(Road r, int left, int off) {
            if (left <= 0) {
                return off == 0 ? 1 : 0;
            }
            Place work = r.work;
            int mover = work.side;
            int sum = 0;
            for (int from = 0; from < r.plan.cells; from++) {
                long goals = (work.own[mover] >> from & 1) == 0 ? 0 : work.goalsOf(from);
                for (int to = 0; to < r.plan.cells; to++) {
                    if ((goals >> to & 1) == 0) {
                        continue;
                    }
                    boolean isBecoming = work.becomes(from, to);
                    int last = isBecoming ? KNIGHT : 0;
                    for (int kind = isBecoming ? QUEEN : 0; kind <= last; kind++) {
                        int offThen = off + r.change(from, to, kind);
                        if (offThen > r.mostOff(from, to, left - 1)) {
                            continue;
                        }
                        work.apply(moveOf(from, to, kind));
                        sum += work.isChecked(mover) ? 0 : walk(r, left - 1, offThen);
                        work.revert();
                    }
                }
            }
            return sum;
        }

        /** How many more cells are not as they are to be, behind a move. */
        private int change(int from, int to, int becomes) {
            int code = work.men[from];
            int victim = work.victimOf(from, to);
            int after = becomes == 0 ? code : becomes * 2 + (code & 1);
            int more = offBy(from, 0) - offBy(from, code) + offBy(to, after) - offBy(to, work.men[to]);
            return victim < 0 || victim == to ? more : more + offBy(victim, 0) - offBy(victim, work.men[victim]);
        }

        private int offBy(int cell, int code) {
            return goal[cell] == code ? 0 : 1;
        }

        /**
         * How many cells may be off behind a move, with so many half moves left: each sets two right, and one more
         * by capturing en passant; two cells of a pawn and its capture set three right in all.
         */
        private int mostOff(int from, int to, int left) {
            boolean isTwo = work.men[from] >> 1 == PAWN && Math.abs(to - from) == 2 * plan.columns;
            return 2 * left + (isTwo && left > 0 ? 1 : 0);
        }
    }

    /** Writes moves in a tongue. */
    private static final class Teller {
        private static final String FIRST_TONGUE = " KQRBNIGC ";
        private static final String SECOND_TONGUE = " KDTLSIGC ";

        final char[] signs = new char[16];
        private final int[] spare = new int[1];
        private int count;

        /** Writes a move of a position into the signs; returns how many there are. */
        int write(Place place, int move, int tongue) {
            String letters = tongue == 0 ? FIRST_TONGUE : SECOND_TONGUE;
            int from = fromOf(move);
            int to = toOf(move);
            int kind = place.men[from] >> 1;
            count = 0;
            if (kind != PAWN) {
                add(letters.charAt(kind));
            }
            addCell(place.plan, from);
            add(place.victimOf(from, to) < 0 ? '-' : 'x');
            addCell(place.plan, to);
            if (becomesOf(move) != 0) {
                add('=');
                add(letters.charAt(becomesOf(move)));
            }
            place.apply(move);
            if (place.isChecked(place.side)) {
                add(place.list(place.side, spare, 1) == 0 ? '#' : '+');
            }
            place.revert();
            return count;
        }

        private void addCell(Plan plan, int cell) {
            int row = plan.rowOf[cell];
            add((char) ('a' + cell - row * plan.columns));
            add((char) ('1' + row));
        }

        private void add(char sign) {
            if (count < signs.length) {
                signs[count++] = sign;
            }
        }
    }

    /** The entries of a tourney. */
    private static final class Tourney {
        int count;
        private final int[][] men = new int[MOST_ENTRIES][MOST_CELLS];
        private final int[] columns = new int[MOST_ENTRIES];
        private final int[] rows = new int[MOST_ENTRIES];
        private final int[] points = new int[MOST_ENTRIES];
        private final int[] years = new int[MOST_ENTRIES];
        final boolean[] isCooked = new boolean[MOST_ENTRIES];
        private final boolean[] isOut = new boolean[MOST_ENTRIES];

        /** Adds an entry, if there is room for it; returns its number. */
        int add(Place place, int itsPoints, int itsYear) {
            if (count >= MOST_ENTRIES) {
                return -1;
            }
            System.arraycopy(place.men, 0, men[count], 0, MOST_CELLS);
            columns[count] = place.plan.columns;
            rows[count] = place.plan.rows;
            points[count] = itsPoints;
            years[count] = itsYear;
            return count++;
        }

        int likeness(int entry, int other) {
            if (columns[entry] != columns[other] || rows[entry] != rows[other]) {
                return 0;
            }
            int same = 0;
            for (int cell = 0; cell < MOST_CELLS; cell++) {
                same += men[entry][cell] != 0 && men[entry][cell] == men[other][cell] ? 1 : 0;
            }
            return same;
        }

        /** The earliest entry of an earlier year that is at least so like to one, -1 if there is none. */
        int firstLike(int entry, int least) {
            int first = -1;
            for (int other = 0; other < count; other++) {
                boolean isLike = years[other] < years[entry] && likeness(entry, other) >= least;
                if (isLike && (first < 0 || years[other] < years[first])) {
                    first = other;
                }
            }
            return first;
        }

        private boolean isAwarded(int entry) {
            return !isCooked[entry] && !isOut[entry];
        }

        int awarded() {
            int many = 0;
            for (int entry = 0; entry < count; entry++) {
                many += isAwarded(entry) ? 1 : 0;
            }
            return many;
        }

        int awardedPoints() {
            int sum = 0;
            for (int entry = 0; entry < count; entry++) {
                sum += isAwarded(entry) ? points[entry] : 0;
            }
            return sum;
        }

        /** The entry at a place of the award, -1 if there is none. */
        int placed(int wanted) {
            for (int entry = 0; entry < count; entry++) {
                if (isAwarded(entry) && aheadInAward(entry) == wanted) {
                    return entry;
                }
            }
            return -1;
        }

        private int aheadInAward(int entry) {
            int many = 0;
            for (int other = 0; other < count; other++) {
                many += isAwarded(other) && isAhead(other, entry) ? 1 : 0;
            }
            return many;
        }

        private boolean isAhead(int entry, int other) {
            if (points[entry] != points[other]) {
                return points[entry] > points[other];
            }
            if (years[entry] != years[other]) {
                return years[entry] < years[other];
            }
            return entry < other;
        }

        /** Takes the entries of a year out of the award; returns how many were in it. */
        int takeOut(int year) {
            int many = 0;
            for (int entry = 0; entry < count; entry++) {
                if (years[entry] == year) {
                    many += isAwarded(entry) ? 1 : 0;
                    isOut[entry] = true;
                }
            }
            return many;
        }
    }
}
