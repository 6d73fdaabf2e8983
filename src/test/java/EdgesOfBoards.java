/** Sentences under Boards and Men, and of the promises 1 to 8. */
final class EdgesOfBoards {
    /** The moves of black's pawn on b2 that captures nothing, not on the cell 0 either. */
    private static final String BLACK_BY_B2 = "b2-b1=Q b2-b1=R b2-b1=B b2-b1=N";

    private EdgesOfBoards() {
    }

    static void run() {
        Page.open("Boards");
        sizes();
        cells();
        sides();
        atMostTenMen();
        atMostOneKing();
        pawnRows();
        Page.open("Men");
        steppers();
        riders();
        hoppers();
        pawnsStraight();
        pawnsByTwo();
        pawnsAslant();
        reached();
        promoted();
        kingsStay();
        promiseNew();
        promiseBoard();
        promiseMan();
        promiseLift();
        promiseAt();
        promiseTurn();
        promiseCondition();
        promiseArmy();
    }

    private static void sizes() {
        Page.says("A board has 3 to 6 columns and 3 to 6 rows;");
        for (int columns = -1; columns <= 8; columns++) {
            for (int rows = -1; rows <= 8; rows++) {
                int c = columns;
                int r = rows;
                Bench x = Due.bench(4, 3, 1, "Ka1 kd3");
                if (c >= 3 && c <= 6 && r >= 3 && r <= 6) {
                    Due.same("board(" + c + ", " + r + ")", c * r, x.board(c, r));
                } else {
                    Due.thrown("board(" + c + ", " + r + ")", Due.ARGUMENT, x, () -> x.board(c, r));
                }
            }
        }
    }

    private static void cells() {
        Page.says("a cell is its row times the columns, plus its column, from 0 on.");
        Edges.everyBoard((columns, rows) -> {
            for (int row = 0; row < rows; row++) {
                for (int column = 0; column < columns; column++) {
                    Bench x = Edges.empty(columns, rows);
                    x.man('k', 0, row * columns + column);
                    Due.same("the column of a king on " + column + ", " + row, (char) ('a' + column), x.sign(0, 0, 1));
                    Due.same("the row of a king on " + column + ", " + row, (char) ('1' + row), x.sign(0, 0, 2));
                }
            }
            Bench x = Edges.empty(columns, rows);
            Due.same("the cell 0", '.', x.at(0));
            Due.same("the last cell", '.', x.at(columns * rows - 1));
            Due.thrown("the cell behind the last", Due.BOUNDS, x, () -> x.at(columns * rows));
            Due.thrown("the cell ahead of the first", Due.BOUNDS, x, () -> x.at(-1));
        });
    }

    private static void sides() {
        Page.says("The side 0 is white and goes up, to greater rows, the side 1 black and goes down.");
        Edges.everyBoard((columns, rows) -> {
            Bench x = Edges.empty(columns, rows);
            x.man('p', 0, columns + 1);
            Due.same("white's pawn goes up", true, Due.can(x, columns + 1, 2 * columns + 1));
            Due.same("not down", false, Due.can(x, columns + 1, 1));
            Bench y = Edges.empty(columns, rows);
            int from = columns * (rows - 2) + 1;
            y.man('p', 1, from);
            y.turn(1);
            Due.same("black's pawn goes down", true, Due.can(y, from, from - columns));
            Due.same("not up", false, Due.can(y, from, from + columns));
        });
    }

    private static void atMostTenMen() {
        Page.says("At most 10 men are on the board,");
        for (String sides : new String[] {"0000000000", "1111111111", "0101010101", "0000000001"}) {
            Bench x = Edges.empty(4, 3);
            for (int i = 0; i < 10; i++) {
                Due.same("man " + (i + 1), i + 1, x.man('n', sides.charAt(i) - '0', i));
            }
            Due.thrown("an eleventh, white", Due.STATE, x, () -> x.man('n', 0, 10));
            Due.thrown("an eleventh, black", Due.STATE, x, () -> x.man('b', 1, 11));
            Due.thrown("an eleventh, a king", Due.STATE, x, () -> x.man('k', 1, 11));
            x.lift(4);
            Due.same("in the place of one taken off", 10, x.man('q', 1, 11));
        }
        Bench y = Due.bench(4, 3, 0, "Rb1 rb3 nc1 nd1 na3 nc3 nd3 nc2 nd2 na1");
        Due.go(y, 1, 9);
        Due.same("in the place of one captured", 10, y.man('q', 1, 1));
        Due.thrown("but no more", Due.STATE, y, () -> y.man('q', 1, 4));
    }

    private static void atMostOneKing() {
        Page.says("of a side at most one king.");
        for (int side = 0; side < 2; side++) {
            int s = side;
            Bench x = Edges.empty(3, 3);
            Due.same("the first", 1, x.man('k', s, 0));
            Due.thrown("the second", Due.UNSUPPORTED, x, () -> x.man('k', s, 8));
            Due.same("the other side's", 2, x.man('k', 1 - s, 8));
            Due.thrown("and its second", Due.UNSUPPORTED, x, () -> x.man('k', 1 - s, 7));
            x.lift(0);
            Due.same("behind lifting", 2, x.man('k', s, 2));
            Due.thrown("one again", Due.UNSUPPORTED, x, () -> x.man('k', s, 0));
        }
    }

    private static void pawnRows() {
        Page.says("A white pawn stands on no first and no last row, nor does a black one.");
        Edges.everyBoard((columns, rows) -> {
            for (int i = 0; i < 2 * columns * rows; i++) {
                int side = i % 2;
                int cell = i / 2;
                Bench x = Edges.empty(columns, rows);
                if (cell >= columns && cell < columns * (rows - 1)) {
                    Due.same("a pawn on " + cell, 1, x.man('p', side, cell));
                } else {
                    Due.same("a pawn on " + cell, "IllegalArgumentException", Due.outcome(() -> x.man('p', side, cell)));
                    Due.same("none is there", '.', x.at(cell));
                }
            }
        });
    }

    /** A man alone on every cell of every board reaches and strikes what is near, and goes there. */
    private static void alone(char kind, Edges.Near near) {
        Edges.everyBoard((columns, rows) -> {
            for (int cell = 0; cell < columns * rows; cell++) {
                Bench x = Edges.empty(columns, rows);
                x.man(kind, 0, cell);
                int due = Edges.sum(columns, rows, cell, near);
                Due.same(kind + " on " + cell + " of " + columns + " by " + rows + " reaches", due, x.reach(cell, false));
                Due.same(kind + " on " + cell + " of " + columns + " by " + rows + " strikes", due, x.reach(cell, true));
                long goals = 0;
                for (int i = 0; i < x.moves(); i++) {
                    goals += 1L << x.moveAt(i, 't');
                }
                Due.same(kind + " on " + cell + " of " + columns + " by " + rows + " goes", due, (int) (goals % 1000003));
            }
        });
    }

    private static void steppers() {
        Page.says("'k' the king goes by one step in each of eight directions;");
        alone('k', (up, aside) -> Math.max(Math.abs(up), Math.abs(aside)) == 1);
        Page.says("'n' the knight by 1 and 2,");
        alone('n', (up, aside) -> Edges.areBoth(up, aside, 1, 2) || Edges.areBoth(up, aside, 2, 1));
        Page.says("'c' the camel by 1 and 3, in each direction;");
        alone('c', (up, aside) -> Edges.areBoth(up, aside, 1, 3) || Edges.areBoth(up, aside, 3, 1));
        Bench x = Due.bench(5, 5, 0, "Na1 rb1 ra2 rb2");
        Due.same("a knight goes over men", true, Due.can(x, 0, 7) && Due.can(x, 0, 11));
        Bench y = Due.bench(5, 5, 0, "Ca1 rb1 ra2 rb2 rc1 rc2 rb3 ra3");
        Due.same("a camel goes over men", true, Due.can(y, 0, 8) && Due.can(y, 0, 16));
    }

    private static void riders() {
        Page.says("'r' the rook along rows and columns,");
        alone('r', (up, aside) -> up == 0 || aside == 0);
        Page.says("'b' the bishop along diagonals,");
        alone('b', (up, aside) -> up == aside || up == -aside);
        Page.says("'q' the queen along both,");
        alone('q', (up, aside) -> up == 0 || aside == 0 || up == aside || up == -aside);
        Page.says("'i' the nightrider by a knight's step again and again in the same direction,");
        alone('i', (up, aside) -> up == 2 * aside || up == -2 * aside || aside == 2 * up || aside == -2 * up);
        Page.says("each over free cells;");
        for (char stop : "Nn".toCharArray()) {
            rider("a rook stopped at the first cell", 'r', stop + "d3", 13, 11, 10, 7, 2, 17, 22);
            rider("a rook stopped at the second one", 'r', stop + "e3", 13, 14, 11, 10, 7, 2, 17, 22);
            rider("a bishop stopped at the first cell", 'b', stop + "b4", 16, 18, 24, 8, 4, 6, 0);
            rider("a bishop not stopped beside it", 'b', stop + "b3", 16, 20, 18, 24, 8, 4, 6, 0);
            rider("a queen stopped twice", 'q', stop + "c2 " + stop + "d4", 18, 7, 13, 14, 11, 10, 17, 22, 16, 20, 8, 4, 6, 0);
            Bench x = Due.bench(6, 6, 0, "Ia1 " + stop + "c2");
            Due.same("a nightrider stopped", Due.sum(8, 13, 26), x.reach(0, false));
            Bench y = Due.bench(6, 6, 0, "Ia1 " + stop + "b2 " + stop + "b1 " + stop + "a2");
            Due.same("a nightrider over men that its steps leave out", Due.sum(8, 16, 13, 26), y.reach(0, false));
            Bench z = Due.bench(6, 6, 0, "If6 " + stop + "e4");
            Due.same("a nightrider down", Due.sum(22, 27, 19), z.reach(35, false));
        }
    }

    private static void rider(String what, char kind, String stops, int... cells) {
        Bench x = Due.bench(5, 5, 0, Character.toUpperCase(kind) + "c3 " + stops);
        Due.same(what, Due.sum(cells), x.reach(12, false));
    }

    private static void hop(String what, int due, String men) {
        Bench x = Due.bench(6, 6, 0, men);
        Due.same("a grasshopper on a1, " + what, due, x.reach(0, false));
    }

    private static void hoppers() {
        Page.says("'g' the grasshopper along rows, columns and diagonals over free cells to the first man, of either side, and right behind it;");
        alone('g', (up, aside) -> false);
        for (char over : "Nn".toCharArray()) {
            hop("over the next man", Due.sum(2), "Ga1 " + over + "b1");
            hop("over one further off", Due.sum(4), "Ga1 " + over + "d1");
            hop("over one ahead of the edge", Due.sum(5), "Ga1 " + over + "e1");
            hop("over one at the edge", 0, "Ga1 " + over + "f1");
            hop("along a column", Due.sum(18), "Ga1 " + over + "a3");
            hop("along a column to the edge", 0, "Ga1 " + over + "a6");
            hop("along a diagonal", Due.sum(14), "Ga1 " + over + "b2");
            hop("along a diagonal to the last cell", Due.sum(35), "Ga1 " + over + "e5");
            hop("over the first man of two", Due.sum(2), "Ga1 " + over + "b1 " + over + "c1");
            hop("not over the second one", Due.sum(3), "Ga1 " + over + "c1 " + over + "e1");
        }
        for (int cell = 0; cell < 30; cell++) {
            for (int over = 0; over < 30; over++) {
                if (over != cell) {
                    Bench y = Edges.empty(5, 6);
                    y.man('g', 0, cell);
                    y.man('n', 1, over);
                    Due.same("a grasshopper on " + cell + " over " + over, behindMan(cell, over), y.reach(cell, false));
                }
            }
        }
        Bench x = Due.bench(6, 6, 0, "Gc3 nb2 Nc2 nd2 Nb3 nd3 Nb4 nc4 Nd4");
        Due.same("in eight directions", Due.sum(0, 2, 4, 12, 16, 24, 26, 28), x.reach(14, false));
        Due.same("it captures behind a man", 'r', Due.go(Due.bench(5, 5, 0, "Ga1 Nb1 rc1"), 0, 2));
        Due.same("the man stays", 'N', behindHop().at(1));
        Due.same("not its own man", false, Due.can(Due.bench(5, 5, 0, "Ga1 Nb1 Rc1"), 0, 2));
    }

    /** The cell right behind a man, as a sum, for a grasshopper on 5 by 6; 0 if it does not come there. */
    private static int behindMan(int cell, int over) {
        int up = over / 5 - cell / 5;
        int aside = over % 5 - cell % 5;
        int row = over / 5 + Integer.signum(up);
        int column = over % 5 + Integer.signum(aside);
        boolean isLine = up == 0 || aside == 0 || up == aside || up == -aside;
        return isLine && row >= 0 && row < 6 && column >= 0 && column < 5 ? Due.sum(row * 5 + column) : 0;
    }

    private static Bench behindHop() {
        Bench x = Due.bench(5, 5, 0, "Ga1 Nb1 rc1");
        Due.go(x, 0, 2);
        return x;
    }

    private static void pawnsStraight() {
        Page.says("'p' the pawn one cell straight ahead, if that is free,");
        for (char stop : "Nn".toCharArray()) {
            Due.same("white's, stopped", false, Due.can(Due.bench(4, 4, 0, "Pb2 " + stop + "b3"), 5, 9));
            Due.same("black's, stopped", false, Due.can(Due.bench(4, 4, 1, "pb3 " + stop + "b2"), 9, 5));
        }
        Edges.everyBoard((columns, rows) -> {
            for (int cell = columns; cell < columns * (rows - 1); cell++) {
                for (int side = 0; side < 2; side++) {
                    Bench x = Edges.empty(columns, rows);
                    x.man('p', side, cell);
                    x.turn(side);
                    Due.same("a pawn of " + side + " on " + cell, true, Due.can(x, cell, side == 0 ? cell + columns : cell - columns));
                }
            }
        });
        Due.same("white's", "b2-b3", Due.list(Due.bench(4, 4, 0, "Pb2")));
        Due.same("black's", "b3-b2", Due.list(Due.bench(4, 4, 1, "pb3")));
        Due.same("white's, on a third row", "b3-b4", Due.list(Due.bench(5, 5, 0, "Pb3")));
    }

    private static void pawnsByTwo() {
        Page.says("from the second row of its side, on boards of 5 rows or more, two, if both are free,");
        Edges.everyBoard((columns, rows) -> {
            for (int row = 1; row < rows - 1; row++) {
                for (int side = 0; side < 2; side++) {
                    Bench x = Edges.empty(columns, rows);
                    int cell = row * columns + 1;
                    int to = cell + (side == 0 ? 2 : -2) * columns;
                    x.man('p', side, cell);
                    x.turn(side);
                    boolean due = rows >= 5 && row == (side == 0 ? 1 : rows - 2);
                    Due.same("a pawn of " + side + " by two cells from row " + row + " of " + rows, due, Due.can(x, cell, to));
                }
            }
        });
        for (char stop : "Nn".toCharArray()) {
            Due.same("white's, the first cell taken", false, Due.can(Due.bench(5, 5, 0, "Pb2 " + stop + "b3"), 6, 16));
            Due.same("white's, the second cell taken", false, Due.can(Due.bench(5, 5, 0, "Pb2 " + stop + "b4"), 6, 16));
            Due.same("but one cell it goes", true, Due.can(Due.bench(5, 5, 0, "Pb2 " + stop + "b4"), 6, 11));
            Due.same("black's, the first cell taken", false, Due.can(Due.bench(5, 5, 1, "pb4 " + stop + "b3"), 16, 6));
            Due.same("black's, the second cell taken", false, Due.can(Due.bench(5, 5, 1, "pb4 " + stop + "b2"), 16, 6));
            Due.same("but one cell black's goes", true, Due.can(Due.bench(5, 5, 1, "pb4 " + stop + "b2"), 16, 11));
        }
    }

    private static void pawnsAslant() {
        Page.says("and one cell diagonally ahead by capturing.");
        Edges.everyBoard((columns, rows) -> {
            for (int cell = columns; cell < columns * (rows - 1); cell++) {
                for (int side = 0; side < 2; side++) {
                    Bench x = Edges.empty(columns, rows);
                    int ahead = side == 0 ? 1 : -1;
                    x.man('p', side, cell);
                    int due = Edges.sum(columns, rows, cell, (up, aside) -> up == ahead && Math.abs(aside) == 1);
                    Due.same("a pawn of " + side + " on " + cell + " reaches", due, x.reach(cell, false));
                }
            }
        });
        Due.same("not on to free cells", "b2-b3", Due.list(Due.bench(4, 4, 0, "Pb2")));
        Due.same("on to men of the other side", "b2xa3 b2-b3 b2xc3", Due.list(Due.bench(4, 4, 0, "Pb2 na3 nc3")));
        Due.same("black's, too", "b3xa2 b3-b2 b3xc2", Due.list(Due.bench(4, 4, 1, "pb3 Na2 Nc2")));
        Due.same("not beside or behind it", "b2-b3", Due.list(Due.bench(4, 4, 0, "Pb2 na1 nb1 nc1 na2 nc2")));
        Due.same("not round the edge", "a2-a3", Due.list(Due.bench(4, 4, 0, "Pa2 nd2 nd3")));
        Due.same("not round the other edge", "d2-d3", Due.list(Due.bench(4, 4, 0, "Pd2 na3 na4")));
    }

    private static void reached() {
        Page.says("A man reaches the cells to which it could go by capturing, if a man of the other side stood there,");
        Due.same("a pawn reaches free cells aslant, none straight ahead", Due.sum(10, 12), Due.bench(5, 5, 0, "Pb2").reach(6, false));
        Due.same("a king's cell, too", Due.sum(1, 3, 4), Due.bench(3, 3, 0, "Ka1 kb2").reach(0, false));
        Page.says("also if one of its own side does,");
        Due.same("its own men's cells", Due.sum(1, 3, 4), Due.bench(3, 3, 0, "Ka1 Qb1 Nb2").reach(0, false));
        Due.same("it cannot go there", "Ka1-a2", Due.list(Due.bench(3, 3, 0, "Ka1 pb2 Nb1")).substring(0, 6));
        Due.same("a pawn's", Due.sum(10, 12), Due.bench(5, 5, 0, "Pb2 Na3 Kc3").reach(6, false));
        Page.says("by this alone.");
        Due.same("a king into check", Due.sum(1, 3, 4), Due.bench(3, 3, 0, "Ka1 rb3").reach(0, false));
        Due.same("a man that is pinned", Due.sum(0, 2, 4, 7), Due.bench(3, 3, 0, "Ka1 Rb1 rc1").reach(1, false));
        Due.same("by m, a man that cannot go", Due.sum(1, 2, 3, 6), Edges.with("m", 3, 3, 0, "Ra1 ra3").reach(0, false));
        Due.same("by g, in its block", Due.sum(1, 2, 3, 6), Edges.with("g", 3, 3, 0, "Ra1").reach(0, false));
        Due.same("by p, a man alone", Due.sum(1, 2, 3, 6), Edges.with("p", 3, 3, 0, "Ra1").reach(0, false));
        Due.same("a man of the side that does not move", Due.sum(1, 2, 3, 6), Due.bench(3, 3, 1, "Ra1").reach(0, false));
    }

    private static void promoted() {
        Page.says("A pawn that comes to the last row becomes a queen, rook, bishop or knight.");
        Edges.everyBoard((columns, rows) -> {
            for (int side = 0; side < 2; side++) {
                Bench x = Edges.empty(columns, rows);
                int last = side == 0 ? rows - 1 : 0;
                int ahead = side == 0 ? columns : -columns;
                int to = last * columns + 1;
                x.man('p', side, to - ahead);
                x.man('n', 1 - side, to - 1);
                x.man('n', 1 - side, to + 1);
                x.turn(side);
                Due.same("three cells, four men each", 12, x.moves());
                for (int i = 0; i < 12; i++) {
                    Due.same("what it becomes", "qrbn".charAt(i % 4), (char) x.moveAt(i, 'p'));
                }
                x.make(side == 0 ? 6 : 7);
                Due.same("it stands there", side == 0 ? 'B' : 'n', x.at(to));
                Bench y = Edges.empty(columns, rows);
                if (rows > 3) {
                    y.man('p', side, to - 2 * ahead);
                    y.turn(side);
                    Due.same("not ahead of the last row", 0, y.moveAt(0, 'p'));
                }
            }
        });
    }

    private static void kingsStay() {
        Page.says("Kings are not captured.");
        for (int side = 0; side < 2; side++) {
            for (int cell = 0; cell < 16; cell++) {
                Bench x = Edges.empty(4, 4);
                int from = cell < 4 ? cell + 4 : cell - 4;
                x.man('r', side, from);
                x.man('k', 1 - side, cell);
                x.turn(side);
                Due.same("a king on " + cell + " is in check", true, x.isCheck(1 - side));
                Due.same("but not captured", false, Due.can(x, from, cell));
            }
        }
        String[] beside = {"Qa1", "Ra1", "Ba1", "Na1", "Ia1", "Ca1", "Ga1 Nb2", "Pa2"};
        String[] king = {"b2", "a2", "b2", "b3", "c5", "b4", "c3", "b3"};
        for (int i = 0; i < beside.length; i++) {
            for (int side = 0; side < 2; side++) {
                int to = Due.cell(5, king[i]);
                int from = Due.cell(5, beside[i].substring(1, 3));
                if (side == 1 && beside[i].startsWith("P")) {
                    continue;
                }
                Bench x = Due.bench(5, 5, side, side == 0 ? beside[i] : beside[i].toLowerCase());
                x.man('k', 1 - side, to);
                Due.same("in check, " + beside[i], true, x.isCheck(1 - side));
                Due.same("but not captured, " + beside[i], false, Due.can(x, from, to));
                x.lift(to);
                x.man('q', 1 - side, to);
                Due.same("as a queen is, " + beside[i], true, Due.can(x, from, to));
            }
        }
        Due.same("nor by a king", "Ka1-b1+ Ka1-a2 Rc1-b1+ Rc1-c2 Rc1-c3", Due.list(Edges.with("p", 3, 3, 0, "Ka1 Rc1 kb2")));
    }

    private static void promiseNew() {
        Page.open("Promise 1");
        Page.says("Creates a bench with an empty board of 5 by 5, white moving.");
        for (int cell = 0; cell < 25; cell++) {
            Due.same("cell " + cell, '.', new Retroboard().at(cell));
        }
        Bench x = new Bench();
        for (int cell : Edges.badCells(25)) {
            Due.thrown("cell " + cell, Due.BOUNDS, x, () -> x.at(cell));
        }
        Due.same("five columns and rows", Due.sum(1, 2, 3, 4, 5, 10, 15, 20), queenless(new Bench()));
        Due.same("white moves", 0, new Retroboard().turn(1));
        Due.same("no entry", 0, new Retroboard().enter(0, 0));
        Due.same("no problem", 0, new Retroboard().problem('d', 1, '#'));
        Due.thrown("no array", Due.STATE, x, () -> x.games(0));
    }

    private static int queenless(Bench x) {
        x.man('r', 0, 0);
        return x.reach(0, false);
    }

    private static Bench full() {
        Bench x = Due.bench(5, 5, 1, "Ka1 ke5 Pb2 pc4 Rd1");
        for (char condition : "mgp".toCharArray()) {
            x.condition(condition, true);
        }
        x.army('g', 1, 9);
        x.problem('z', 3, '=');
        x.array();
        x.enter(7, 8);
        x.make(0);
        return x;
    }

    private static void promiseBoard() {
        Page.open("Promise 2");
        Page.says("Lays an empty board, white moving, without conditions, array and problem;");
        Bench x = full();
        x.turn(1);
        x.board(4, 3);
        Due.same("white moving", 0, x.twin().turn(1));
        Due.same("no men", 0, x.twin().array());
        Due.same("no moves", 0, x.moves());
        for (int cell = 0; cell < 12; cell++) {
            Due.same("empty", '.', x.at(cell));
        }
        Due.thrown("no array", Due.STATE, x, () -> x.games(0));
        Due.thrown("no problem", Due.STATE, x, () -> x.solutions());
        Due.same("the one before had none", 0, x.problem('d', 1, '#'));
        Due.thrown("nothing to undo", Due.MISSING, x, () -> x.undo());
        for (char condition : "mgp".toCharArray()) {
            Due.same("without " + condition, false, x.condition(condition, false));
        }
        Bench passing = Due.bench(5, 5, 1, "pb4 Pc2");
        Due.go(passing, 16, 6);
        passing.board(5, 5);
        passing.man('p', 1, 6);
        passing.man('p', 0, 7);
        Due.same("no pawn that could be captured en passant", false, Due.can(passing, 7, 11));
        Page.says("armies and entries stay;");
        Due.same("the army", 9, x.army('g', 1, 0));
        Due.same("the entry", 5, x.like(0, 0));
        Due.same("the next entry", 1, x.enter(0, 0));
        Page.says("it is one of 5 by 5 at first.");
        Bench first = new Bench();
        Due.same("25 cells", '.', first.at(24));
        Due.thrown("no 26th", Due.BOUNDS, first, () -> first.at(25));
        Page.says("- `columns`: how many columns, 3 to 6");
        Page.says("- `rows`: how many rows, 3 to 6");
        Page.says("Returns how many cells it has.");
        Edges.everyBoard((columns, rows) -> Due.same(columns + " by " + rows, columns * rows, new Retroboard().board(columns, rows)));
        Page.says("Throws `IllegalArgumentException` if a number is out of range");
        Bench y = full();
        for (int bad : new int[] {2, 7, 0, -3, 3 + 256, 3 + 65536, Integer.MIN_VALUE, Integer.MAX_VALUE}) {
            Due.thrown("columns " + bad, Due.ARGUMENT, y, () -> y.board(bad, 3));
            Due.thrown("rows " + bad, Due.ARGUMENT, y, () -> y.board(6, bad));
            Due.thrown("both " + bad, Due.ARGUMENT, y, () -> y.board(bad, bad));
        }
    }

    private static void promiseMan() {
        Page.open("Promise 3");
        Page.says("Puts a man on a free cell;");
        for (int i = 0; i < 9; i++) {
            Bench x = Edges.empty(3, 3);
            x.man(Edges.KINDS.charAt(i), 0, 4);
            Due.same("white's", Character.toUpperCase(Edges.KINDS.charAt(i)), x.at(4));
            Bench y = Edges.empty(3, 3);
            y.man(Edges.KINDS.charAt(i), 1, 4);
            Due.same("black's", Edges.KINDS.charAt(i), y.at(4));
        }
        Page.says("moves made cannot be undone then,");
        Bench made = Due.bench(3, 3, 0, "Ka1 kc3");
        made.make(0);
        made.make(0);
        made.man('n', 1, 6);
        Due.thrown("undo", Due.MISSING, made, () -> made.undo());
        made.make(0);
        Due.same("but moves made later", 0, made.undo());
        Page.says("and nothing is proved.");
        Bench proved = EdgesOfHistory.proved(0);
        Due.same("proved", true, Due.can(proved, 17, 11));
        proved.man('n', 1, 24);
        Due.same("no more", false, Due.can(proved, 17, 11));
        Due.same("nor on the cell 0", BLACK_BY_B2, Due.list(turnedFirst()));
        Page.says("- `kind`: k q r b n i g c or p");
        Page.says("- `side`: the side, 0 or 1");
        Page.says("- `cell`: the cell");
        Page.says("Returns how many there are.");
        Bench x = Edges.empty(6, 6);
        for (int i = 0; i < 10; i++) {
            Due.same("of both sides", i + 1, x.man(Edges.KINDS.charAt(i % 9), i % 2, 10 + i));
        }
        manThrows();
    }

    private static void manThrows() {
        Bench x = Due.bench(4, 3, 0, "Ka1 kd3 Na2 nd2");
        Page.says("Throws `IndexOutOfBoundsException` if there is no such cell");
        for (int cell : Edges.badCells(12)) {
            Due.thrown("man on " + cell, Due.BOUNDS, x, () -> x.man('q', 0, cell));
            Due.thrown("ahead of a wrong kind and side", Due.BOUNDS, x, () -> x.man('x', 2, cell));
        }
        Page.says("Throws `IllegalArgumentException` if there is no such kind or side, or a pawn cannot stand there");
        for (char kind : Edges.BAD_KINDS) {
            Due.thrown("kind " + (int) kind, Due.ARGUMENT, x, () -> x.man(kind, 0, 5));
            Due.thrown("ahead of a taken cell", Due.ARGUMENT, x, () -> x.man(kind, 0, 0));
        }
        for (int side : Edges.BAD_SIDES) {
            Due.thrown("side " + side, Due.ARGUMENT, x, () -> x.man('q', side, 5));
            Due.thrown("a king, ahead of a second one", Due.ARGUMENT, x, () -> x.man('k', side, 0));
        }
        for (int cell = 0; cell < 12; cell++) {
            int c = cell;
            if (c < 4 || c >= 8) {
                Due.thrown("a white pawn on " + c, Due.ARGUMENT, x, () -> x.man('p', 0, c));
                Due.thrown("a black pawn on " + c, Due.ARGUMENT, x, () -> x.man('p', 1, c));
            }
        }
        Page.says("Throws `UnsupportedOperationException` if the cell is taken, or it is a second king of a side");
        for (int cell : new int[] {0, 4, 7, 11}) {
            for (int side = 0; side < 2; side++) {
                int s = side;
                Due.thrown("taken", Due.UNSUPPORTED, x, () -> x.man('q', s, cell));
                Due.thrown("a king again", Due.UNSUPPORTED, x, () -> x.man('k', s, cell));
                Due.thrown("a king elsewhere", Due.UNSUPPORTED, x, () -> x.man('k', s, 5));
            }
        }
        Page.says("Throws `IllegalStateException` if there are 10");
        for (int i = 5; i < 11; i++) {
            x.man('b', i % 2, i == 7 ? 1 : i);
        }
        Due.thrown("an eleventh", Due.STATE, x, () -> x.man('b', 0, 2));
        Due.thrown("ahead of it, a taken cell", Due.UNSUPPORTED, x, () -> x.man('b', 0, 1));
        Due.thrown("and a second king", Due.UNSUPPORTED, x, () -> x.man('k', 0, 2));
        Due.thrown("and a wrong kind", Due.ARGUMENT, x, () -> x.man('x', 0, 2));
        Due.thrown("and a pawn's row", Due.ARGUMENT, x, () -> x.man('p', 0, 2));
        Due.thrown("and no cell", Due.BOUNDS, x, () -> x.man('b', 0, 12));
    }

    /** Black's turn was told ahead of all men; nothing was made that its pawn could capture en passant. */
    private static Bench turnedFirst() {
        Bench x = Edges.empty(4, 4);
        x.turn(1);
        x.man('p', 1, 5);
        x.man('p', 0, 4);
        return x;
    }

    private static void promiseLift() {
        Page.open("Promise 4");
        Page.says("Takes a man off;");
        Bench x = Due.bench(4, 4, 0, "Ka1 kd4 Nb2");
        x.lift(5);
        Due.same("it is gone", '.', x.at(5));
        Due.same("the others are not", 2, x.array());
        Page.says("moves made cannot be undone then,");
        x.make(0);
        x.make(0);
        int king = x.at(14) == 'k' ? 14 : x.at(10) == 'k' ? 10 : 11;
        x.lift(king);
        Due.thrown("undo", Due.MISSING, x, () -> x.undo());
        x.make(0);
        Due.same("but a move made later", 0, x.undo());
        Page.says("and nothing is proved.");
        Bench proved = EdgesOfHistory.proved(1);
        Due.same("proved", true, Due.can(proved, 17, 11));
        proved.lift(24);
        Due.same("no more", false, Due.can(proved, 17, 11));
        Bench corner = turnedFirst();
        corner.man('q', 0, 15);
        corner.lift(15);
        Due.same("nor on the cell 0", BLACK_BY_B2, Due.list(corner));
        Page.says("- `cell`: the cell");
        Page.says("Returns its letter, a capital one for white.");
        for (char kind : Edges.KINDS.toCharArray()) {
            char white = Character.toUpperCase(kind);
            Due.same("white's", white, Due.bench(3, 3, 0, white + "b2").lift(4));
            Due.same("black's", kind, Due.bench(3, 3, 0, kind + "b2").lift(4));
        }
        Bench y = Due.bench(4, 3, 0, "Ka1 kd3");
        Page.says("Throws `IndexOutOfBoundsException` if there is no such cell");
        for (int cell : Edges.badCells(12)) {
            Due.thrown("lift " + cell, Due.BOUNDS, y, () -> y.lift(cell));
        }
        Page.says("Throws `NoSuchElementException` if there is none");
        for (int cell = 1; cell < 11; cell++) {
            int c = cell;
            Due.thrown("lift " + c, Due.MISSING, y, () -> y.lift(c));
        }
        y.lift(0);
        Due.thrown("what is lifted", Due.MISSING, y, () -> y.lift(0));
    }

    private static void promiseAt() {
        Page.open("Promise 5");
        Page.says("Returns the man on a cell.");
        Page.says("- `cell`: the cell");
        Page.says("Returns its letter, a capital one for white, '.' for none.");
        Bench x = Due.bench(6, 6, 0, "Ka1 Qb1 Rc1 Bd1 Ne1 If1 Gf6 Ca6 Pb5");
        Bench y = Due.bench(6, 6, 0, "ka1 qb1 rc1 bd1 ne1 if1 gf6 ca6 pb5");
        String due = "KQRBNI" + ".".repeat(19) + "P" + "...." + "C....G";
        for (int cell = 0; cell < 36; cell++) {
            Due.same("white's on " + cell, due.charAt(cell), x.at(cell));
            Due.same("black's on " + cell, Character.toLowerCase(due.charAt(cell)), y.at(cell));
        }
        Page.says("Throws `IndexOutOfBoundsException` if there is no such cell");
        Edges.everyBoard((columns, rows) -> {
            Bench z = Edges.empty(columns, rows);
            for (int cell : Edges.badCells(columns * rows)) {
                Due.same("at(" + cell + ")", "IndexOutOfBoundsException", Due.outcome(() -> z.at(cell)));
            }
        });
    }

    private static void promiseTurn() {
        Page.open("Promise 6");
        Page.says("Tells which side moves;");
        Bench x = Due.bench(3, 3, 0, "Na1 nc3");
        Due.same("white", "Na1-c2 Na1-b3", Due.list(x));
        x.turn(1);
        Due.same("black", "Nc3-b1 Nc3-a2", Due.list(x));
        x.turn(0);
        Due.same("white again", "Na1-c2 Na1-b3", Due.list(x));
        Page.says("nothing is proved then.");
        Bench proved = EdgesOfHistory.proved(0);
        proved.turn(1);
        Due.same("of the same side", false, Due.can(proved, 17, 11));
        Bench again = EdgesOfHistory.proved(0);
        again.turn(0);
        again.turn(1);
        Due.same("of the other one", false, Due.can(again, 17, 11));
        Bench corner = Edges.empty(4, 4);
        Due.lay(corner, 4, "Pa2 pb2");
        corner.turn(1);
        Due.same("nor on the cell 0", BLACK_BY_B2, Due.list(corner));
        Page.says("- `side`: the side, 0 or 1");
        Page.says("Returns the side before.");
        Due.same("white", 0, x.turn(0));
        Due.same("white, then black", 0, x.turn(1));
        Due.same("black", 1, x.turn(1));
        Due.same("black, then white", 1, x.turn(0));
        x.make(0);
        Due.same("black, behind a move", 1, x.turn(0));
        Page.says("Throws `IllegalArgumentException` if there is no such side");
        Bench y = EdgesOfHistory.proved(0);
        for (int side : Edges.BAD_SIDES) {
            Due.thrown("turn " + side, Due.ARGUMENT, y, () -> y.turn(side));
        }
    }

    private static void promiseCondition() {
        Page.open("Promise 7");
        Page.says("Tells a condition.");
        Bench x = Due.bench(5, 5, 0, "Ra1 ra5");
        x.condition('m', true);
        Due.same("m", "", Due.list(x));
        x.condition('m', false);
        x.condition('g', true);
        Due.same("g", "Ra1-c1 Ra1-d1 Ra1-e1 Ra1-a3 Ra1-a4 Ra1xa5", Due.list(x));
        x.condition('p', true);
        Due.same("g and p", "Ra1-c1 Ra1-d1 Ra1-e1 Ra1-a3 Ra1-a4", Due.list(x));
        x.condition('g', false);
        Due.same("p", "Ra1-b1 Ra1-c1 Ra1-d1 Ra1-e1 Ra1-a2 Ra1-a3 Ra1-a4", Due.list(x));
        Page.says("- `letter`: 'm', 'g' or 'p'");
        Page.says("- `is`: whether it holds");
        Page.says("Returns whether it held.");
        for (char letter : "mgp".toCharArray()) {
            Bench y = new Bench();
            for (int i = 0; i < 8; i++) {
                boolean is = i % 4 == 1 || i % 4 == 2;
                boolean was = i % 4 == 2 || i % 4 == 3;
                Due.same(letter + ", time " + i, was, y.condition(letter, is));
            }
            y.condition(letter, true);
            for (char other : "mgp".toCharArray()) {
                Due.same("each by itself", other == letter, y.condition(other, false));
            }
        }
        Page.says("Throws `IllegalArgumentException` if there is no such letter");
        Bench z = full();
        for (char letter : new char[] {'M', 'G', 'P', 'k', '.', (char) 0, (char) ('m' + 256), (char) 65535}) {
            Due.thrown("condition " + (int) letter, Due.ARGUMENT, z, () -> z.condition(letter, false));
            Due.thrown("condition " + (int) letter, Due.ARGUMENT, z, () -> z.condition(letter, true));
        }
    }

    private static void promiseArmy() {
        Page.open("Promise 8");
        Page.says("Tells a part of an army.");
        Bench x = Due.bench(3, 3, 0, "Ia1 ic3");
        Due.same("no nightriders", false, x.isPossible());
        x.army('i', 0, 1);
        Due.same("white's alone", false, x.isPossible());
        x.army('i', 1, 1);
        Due.same("both", true, x.isPossible());
        Page.says("- `kind`: k q r b n i g c or p");
        Page.says("- `side`: the side, 0 or 1");
        Page.says("- `many`: how many, 0 to 9");
        Page.says("Returns how many before.");
        for (int side = 0; side < 2; side++) {
            for (int i = 0; i < 9; i++) {
                char kind = Edges.KINDS.charAt(i);
                Due.same("at first, " + kind, "112220006".charAt(i) - '0', x.army(kind, side, 0) + (kind == 'i' ? -1 : 0));
                for (int many = 1; many <= 9; many++) {
                    Due.same("before " + many + " of " + kind, many - 1, x.army(kind, side, many));
                }
                Due.same("before none of " + kind, 9, x.army(kind, side, i));
            }
        }
        for (int i = 0; i < 18; i++) {
            Due.same("each by itself", i % 9, x.army(Edges.KINDS.charAt(i % 9), i / 9, 0));
        }
        Page.says("Throws `IllegalArgumentException` if there is no such kind or side, or the number is out of range");
        Bench y = full();
        for (char kind : Edges.BAD_KINDS) {
            Due.thrown("army of " + (int) kind, Due.ARGUMENT, y, () -> y.army(kind, 0, 3));
        }
        for (int side : Edges.BAD_SIDES) {
            Due.thrown("army of the side " + side, Due.ARGUMENT, y, () -> y.army('q', side, 3));
        }
        for (int many : new int[] {-1, 10, 11, 256, 65536, Integer.MIN_VALUE, Integer.MAX_VALUE}) {
            Due.thrown("army of " + many, Due.ARGUMENT, y, () -> y.army('q', 1, many));
        }
    }
}
