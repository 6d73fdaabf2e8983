import java.util.function.Consumer;

/** Sentences under Conditions and Moves, and of the promises 9 to 15. */
final class EdgesOfMoves {
    private EdgesOfMoves() {
    }

    static void run() {
        Page.open("Conditions");
        madrasi();
        grid();
        patrol();
        strikes();
        check();
        Page.open("Moves");
        lawful();
        passing();
        passingByTheNextMove();
        passingByPawnsAlone();
        passingUnderConditions();
        order();
        matedOrStale();
        undone();
        promiseMoves();
        promiseMoveAt();
        promiseMake();
        promiseUndo();
        promiseIsCheck();
        promiseIsAim();
        promiseReach();
    }

    private static void madrasi() {
        Page.says("By 'm', a man that is no king, and whose cell a man of the same kind of the other side reaches, cannot go and strikes nothing.");
        String[] pairs = {"Qa1 qa4", "Ra1 ra4", "Ba1 bd4", "Na1 nb3", "Ia1 ic5", "Ca1 cb4", "Pb3 pc4"};
        for (String pair : pairs) {
            int white = Due.cell(6, pair.substring(1, 3));
            int black = Due.cell(6, pair.substring(5));
            for (int side = 0; side < 2; side++) {
                Bench x = Edges.with("m", 6, 6, side, pair);
                Due.same(pair + " by m, moves of " + side, 0, x.moves());
                Due.same(pair + " by m, struck", 0, x.reach(side == 0 ? white : black, true));
                Due.same(pair + " by m, reached", true, x.reach(side == 0 ? white : black, false) != 0);
                Due.same(pair + " without m", true, Due.bench(6, 6, side, pair).moves() > 0);
            }
            String own = pair.substring(0, 4) + Character.toUpperCase(pair.charAt(4)) + pair.substring(5);
            Due.same(own + " by m", Due.list(Due.bench(6, 6, 0, own)), Due.list(Edges.with("m", 6, 6, 0, own)));
            String other = pair.substring(0, 4) + (pair.charAt(4) == 'q' ? "r" : "q") + pair.substring(5);
            Due.same(other + " by m", Due.list(Due.bench(6, 6, 0, other)), Due.list(Edges.with("m", 6, 6, 0, other)));
        }
        Due.same("not one that is not reached", "Gd1xa1", Due.list(Edges.with("m", 5, 5, 1, "Ga1 Nb1 gd1")));
        Due.same("but the one that is", false, Due.can(Edges.with("m", 5, 5, 0, "Ga1 Nb1 gd1"), 0, 2));
        Due.same("not behind a man between", true, Due.can(Edges.with("m", 5, 5, 0, "Ra1 na2 ra3"), 0, 5));
        Due.same("kings strike", true, Edges.with("m", 3, 3, 0, "Ka1 kb2").isCheck(0));
        Due.same("kings go", "Ka1-a2", Due.list(Edges.with("m", 3, 4, 0, "Ka1 kc1")));
        Due.same("no check by a rook that cannot go", false, Edges.with("m", 5, 5, 0, "Ka1 ra5 Re5").isCheck(0));
        Due.same("but by a queen", true, Edges.with("m", 5, 5, 0, "Ka1 qa5 Re5").isCheck(0));
        Due.same("check by a grasshopper", true, Due.bench(5, 5, 0, "Ka1 Nb2 gd4 nc4 Gb4").isCheck(0));
        Due.same("none by one that cannot go", false, Edges.with("m", 5, 5, 0, "Ka1 Nb2 gd4 nc4 Gb4").isCheck(0));
    }

    private static void grid() {
        Page.says("By 'g', blocks of two columns and two rows, from the cell 0 on, no man goes to a cell of the block in which it is, nor strikes there.");
        Edges.everyBoard((columns, rows) -> {
            for (int cell = 0; cell < columns * rows; cell++) {
                int row = cell / columns;
                int column = cell % columns;
                Bench x = Edges.empty(columns, rows);
                x.man('q', 0, cell);
                x.condition('g', true);
                Edges.Near near = (up, aside) -> up == 0 || aside == 0 || up == aside || up == -aside;
                int due = Edges.sum(columns, rows, cell, (up, aside) -> near.is(up, aside)
                    && ((row + up) / 2 != row / 2 || (column + aside) / 2 != column / 2));
                Due.same("a queen on " + cell + " by g strikes", due, x.reach(cell, true));
                Due.same("it reaches as much", Edges.sum(columns, rows, cell, near), x.reach(cell, false));
                long goals = 0;
                for (int i = 0; i < x.moves(); i++) {
                    goals += 1L << x.moveAt(i, 't');
                }
                Due.same("a queen on " + cell + " by g goes", due, (int) (goals % 1000003));
            }
        });
        Due.same("nor captures there", "Ra1-a3", Due.list(Edges.with("g", 3, 3, 0, "Ra1 nb1")));
        Due.same("nor a pawn", "", Due.list(Edges.with("g", 4, 4, 0, "Pa3 nb4")));
        Due.same("a pawn to the next block", "a2-a3 a2xb3", Due.list(Edges.with("g", 4, 4, 0, "Pa2 nb3")));
        Due.same("no check in its block", false, Edges.with("g", 5, 5, 0, "Ka1 rb1").isCheck(0));
        Due.same("check from the next one", true, Edges.with("g", 5, 5, 0, "Ka1 rc1").isCheck(0));
    }

    private static void patrol() {
        Page.says("By 'p', a man, a king too, captures and strikes only if another man of its side reaches its cell.");
        Due.same("a rook alone", "Ra1-b1 Ra1-a2", Due.list(Edges.with("p", 3, 3, 0, "Ra1 nc1 na3")));
        Due.same("a rook that the other side's man reaches", "Ra1-b1 Ra1-a2", Due.list(Edges.with("p", 3, 3, 0, "Ra1 rc1 bc3 na3")));
        Due.same("a rook that its own man reaches", true, Due.can(Edges.with("p", 3, 3, 0, "Ra1 Bb2 nc1"), 0, 2));
        Due.same("a rook that its own man does not reach", false, Due.can(Edges.with("p", 3, 3, 0, "Ra1 Bb1 na3"), 0, 6));
        Due.same("a king alone", false, Due.can(Edges.with("p", 3, 3, 0, "Ka1 nb2"), 0, 4));
        Due.same("a king that is reached", true, Due.can(Edges.with("p", 3, 3, 0, "Ka1 nb2 Rb1"), 0, 4));
        Due.same("a king alone strikes nothing", 0, Edges.with("p", 3, 3, 0, "Ka1").reach(0, true));
        Due.same("a king that is reached strikes", Due.sum(1, 3, 4), Edges.with("p", 3, 3, 0, "Ka1 Rb1").reach(0, true));
        Due.same("a pawn alone", false, Due.can(Edges.with("p", 4, 4, 0, "Pb2 na3"), 5, 8));
        Due.same("a pawn that its king reaches", true, Due.can(Edges.with("p", 4, 4, 0, "Pb2 na3 Ka1"), 5, 8));
        Due.same("a black pawn alone beside the cell 0", "b2-b1=Q b2-b1=R b2-b1=B b2-b1=N", Due.list(Edges.with("p", 4, 4, 1, "pb2 Na1")));
        Due.same("nor on to it, free", "b2-b1=Q b2-b1=R b2-b1=B b2-b1=N", Due.list(Edges.with("p", 4, 4, 1, "pb2 Nc4")));
        Due.same("no check by a grasshopper alone", false, Edges.with("p", 5, 5, 0, "Ka1 Nb2 gd4").isCheck(0));
        Due.same("check by one that is reached", true, Edges.with("p", 5, 5, 0, "Ka1 Nb2 gd4 ke5").isCheck(0));
        Due.same("two rooks that reach each other", true, Due.can(Edges.with("p", 4, 4, 0, "Ra1 Ra2 nd1"), 0, 3));
        Due.same("no check by a rook alone", false, Edges.with("p", 5, 5, 0, "Ka1 ra5").isCheck(0));
        Due.same("check by a rook that is reached", true, Edges.with("p", 5, 5, 0, "Ka1 ra5 nb3").isCheck(0));
        Due.same("by a man that cannot go, too", true, Edges.with("pm", 5, 5, 0, "Ka1 ra5 nb3 Nc5").isCheck(0));
    }

    private static void strikes() {
        Page.says("A man strikes a cell that it reaches, as far as conditions let it.");
        for (char kind : Edges.KINDS.toCharArray()) {
            String men = Character.toUpperCase(kind) + "c3 Nb2 " + kind + "d4";
            Bench x = Due.bench(6, 6, 0, men);
            int all = x.reach(14, false);
            Due.same(kind + " without conditions", all, x.reach(14, true));
            boolean isReached = kind == 'q' || kind == 'b' || kind == 'p';
            Due.same(kind + " by m", isReached ? 0 : all, Edges.with("m", 6, 6, 0, men).reach(14, true));
            Due.same(kind + " by p", 0, Edges.with("p", 6, 6, 0, men).reach(14, true));
        }
        Due.same("by p", Due.sum(1, 2, 3, 6), Edges.with("p", 3, 3, 0, "Ra1 Kb2").reach(0, true));
        Due.same("by g", Due.sum(2, 6), Edges.with("g", 3, 3, 0, "Ra1 Kb2").reach(0, true));
        Due.same("by g and p", Due.sum(2, 6), Edges.with("gp", 3, 3, 0, "Ra1 Kb2").reach(0, true));
        Due.same("by all three", 0, Edges.with("gpm", 3, 3, 0, "Ra1 Kb2 rc1").reach(0, true));
        Due.same("its own men's cells", Due.sum(1, 3, 6), Due.bench(3, 3, 0, "Ra1 Nb1").reach(0, true));
        Due.same("cells of the other side's king", Due.sum(1, 2, 3, 6), Due.bench(3, 3, 0, "Ra1 kc1").reach(0, true));
        Due.same("of the side that does not move", Due.sum(1, 2, 3, 6), Due.bench(3, 3, 1, "Ra1 kc1").reach(0, true));
    }

    private static void check() {
        Page.says("A king is in check if a man of the other side strikes its cell.");
        String[] black = {"qa1 Kb2", "ra1 Ka2", "ba1 Kb2", "na1 Kb3", "ia1 Kc5", "ga1 nb2 Kc3", "ca1 Kb4", "ka1 Kb2", "pb3 Ka2", "pb3 Kc2"};
        String[] white = {"Qa1 kb2", "Ra1 ka2", "Ba1 kb2", "Na1 kb3", "Ia1 kc5", "Ga1 Nb2 kc3", "Ca1 kb4", "Ka1 kb2", "Pb2 ka3", "Pb2 kc3"};
        for (int i = 0; i < black.length; i++) {
            Due.same("white, by " + black[i], true, Due.bench(5, 5, 0, black[i]).isCheck(0));
            Due.same("black, by " + white[i], true, Due.bench(5, 5, 0, white[i]).isCheck(1));
        }
        checkFromEverywhere();
        checkOverMen();
        for (String own : new String[] {"Qa1 Kb2", "Ra1 Ka2", "Ba1 Kb2", "Na1 Kb3", "Ia1 Kc5", "Ga1 Nb2 Kc3", "Ca1 Kb4", "Pb2 Ka3"}) {
            Due.same("not by its own side, " + own, false, Due.bench(5, 5, 0, own).isCheck(0));
        }
        for (String own : new String[] {"qa1 kb2", "ra1 ka2", "ba1 kb2", "na1 kb3", "ia1 kc5", "ga1 nb2 kc3", "ca1 kb4", "pb3 ka2"}) {
            Due.same("nor black's by its own, " + own, false, Due.bench(5, 5, 0, own).isCheck(1));
        }
        for (String far : new String[] {"qa1 Kb3", "ra1 Kb2", "ba1 Kb1", "na1 Kb2", "ia1 Kb2", "ga1 Kb2", "ga1 nb2 Kd4", "ca1 Kb3",
            "ka1 Kc3", "pb3 Kb2", "pb3 Ka4", "pb3 Ka3"}) {
            Due.same("not by a man that does not reach it, " + far, false, Due.bench(5, 5, 0, far).isCheck(0));
        }
    }

    /** Each man gives check from just the cells that its way of going tells. */
    private static void checkFrom(char kind, int side, Edges.Near near) {
        for (int king = 0; king < 30; king++) {
            for (int cell = 0; cell < 30; cell++) {
                boolean isPawnless = kind == 'p' && (cell < 5 || cell >= 25);
                if (cell != king && !isPawnless) {
                    Bench x = Edges.empty(5, 6);
                    x.man('k', 1 - side, king);
                    x.man(kind, side, cell);
                    boolean due = near.is(king / 5 - cell / 5, king % 5 - cell % 5);
                    Due.same(kind + " on " + cell + " and the king on " + king, due, x.isCheck(1 - side));
                }
            }
        }
    }

    private static void checkFromEverywhere() {
        for (int side = 0; side < 2; side++) {
            int ahead = side == 0 ? 1 : -1;
            checkFrom('k', side, (up, aside) -> Math.max(Math.abs(up), Math.abs(aside)) == 1);
            checkFrom('n', side, (up, aside) -> Edges.areBoth(up, aside, 1, 2) || Edges.areBoth(up, aside, 2, 1));
            checkFrom('c', side, (up, aside) -> Edges.areBoth(up, aside, 1, 3) || Edges.areBoth(up, aside, 3, 1));
            checkFrom('r', side, (up, aside) -> up == 0 || aside == 0);
            checkFrom('b', side, (up, aside) -> up == aside || up == -aside);
            checkFrom('q', side, (up, aside) -> up == 0 || aside == 0 || up == aside || up == -aside);
            checkFrom('i', side, (up, aside) -> up == 2 * aside || up == -2 * aside || aside == 2 * up || aside == -2 * up);
            checkFrom('g', side, (up, aside) -> false);
            checkFrom('p', side, (up, aside) -> up == ahead && Math.abs(aside) == 1);
        }
    }

    /** A grasshopper gives check over a man right beside the king, in each direction, from near or far. */
    private static void checkOverMen() {
        for (int king = 0; king < 36; king++) {
            for (int way = 0; way < 9; way++) {
                int up = way / 3 - 1;
                int aside = way % 3 - 1;
                for (int far = 2; far < 6 && way != 4; far++) {
                    int row = king / 6 + far * up;
                    int column = king % 6 + far * aside;
                    for (int over = 1; over < far && row >= 0 && row < 6 && column >= 0 && column < 6; over++) {
                        Bench x = Edges.empty(6, 6);
                        x.man('k', 0, king);
                        x.man('g', 1, row * 6 + column);
                        x.man('c', over % 2, king + over * (6 * up + aside));
                        Due.same("a grasshopper over a man " + over + " from the king on " + king + ", way " + way, over == 1, x.isCheck(0));
                    }
                }
            }
        }
    }

    private static void lawful() {
        Page.says("A move is lawful if the own king, if there is one, is not in check behind it.");
        Due.same("a man that is pinned", "Ka1-a2 Ka1-b2 Rb1xc1", Due.list(Due.bench(3, 3, 0, "Ka1 Rb1 rc1")));
        Due.same("without its king", "Rb1-a1 Rb1xc1 Rb1-b2 Rb1-b3", Due.list(Due.bench(3, 3, 0, "Rb1 rc1")));
        Due.same("a king out of check", "Ka1-b1 Ka1-b2", Due.list(Due.bench(3, 3, 0, "Ka1 ra3")));
        Due.same("black's, too", "Kc3-b2 Kc3-c2", Due.list(Due.bench(3, 3, 1, "kc3 Ra3")));
        Due.same("a king not along the line of check", "Kb1-a2 Kb1-b2 Kb1-c2", Due.list(Due.bench(5, 5, 0, "Kb1 rd1")));
        Due.same("another man between", "Ka1-b1 Ka1-b2 Rb3-a3", Due.list(Due.bench(5, 5, 0, "Ka1 ra5 Rb3")));
        Due.same("the other side's king may be in check", true, Due.can(Due.bench(5, 5, 0, "Ka1 Rb3 ke5"), 11, 14));
        Due.same("not so that a grasshopper goes over the man", false, Due.can(Due.bench(5, 5, 0, "Ka1 Nc3 ge1"), 12, 1));
        Due.same("but elsewhere", true, Due.can(Due.bench(5, 5, 0, "Ka1 Nc3 ge1"), 12, 21));
    }

    /** A pawn that can go by two cells, and one of the other side that could capture it en passant then. */
    private record Pass(Bench x, int side, int home, int over, int to, int foe, int last) {
    }

    private static void everyPassing(Consumer<Pass> test) {
        for (int columns = 3; columns <= 6; columns++) {
            for (int rows = 5; rows <= 6; rows++) {
                for (int i = 0; i < 4 * columns; i++) {
                    int side = i & 1;
                    int column = i >> 2;
                    int beside = column + ((i & 2) == 0 ? 1 : -1);
                    if (beside < 0 || beside >= columns) {
                        continue;
                    }
                    int up = side == 0 ? columns : -columns;
                    int home = (side == 0 ? 1 : rows - 2) * columns + column;
                    int foe = home + 2 * up + beside - column;
                    Bench x = Edges.empty(columns, rows);
                    x.man('p', side, home);
                    x.man('p', 1 - side, foe);
                    x.turn(side);
                    test.accept(new Pass(x, side, home, home + up, home + 2 * up, foe, columns * rows - 1));
                }
            }
        }
    }

    private static void passing() {
        Page.says("Behind two cells of a pawn,");
        everyPassing(p -> {
            Due.same("nothing is captured by two cells", '.', Due.go(p.x, p.home, p.to));
            Due.same("it can be captured en passant", true, Due.can(p.x, p.foe, p.over));
            Due.same("the pawn is captured", 'p', Character.toLowerCase(Due.go(p.x, p.foe, p.over)));
            Due.same("it is gone", '.', p.x.at(p.to));
            Due.same("the other is there", p.side == 0 ? 'p' : 'P', p.x.at(p.over));
            Due.same("and no more where it was", '.', p.x.at(p.foe));
        });
        everyPassing(p -> {
            p.x.lift(p.home);
            p.x.man('p', p.side, p.over);
            Due.go(p.x, p.over, p.to);
            Due.same("not behind one cell", false, Due.can(p.x, p.foe, p.over));
        });
        everyPassing(p -> {
            p.x.lift(p.home);
            p.x.man('p', p.side, p.to);
            p.x.turn(1 - p.side);
            Due.same("not if it has not gone", false, Due.can(p.x, p.foe, p.over));
        });
        everyPassing(p -> {
            p.x.lift(p.home);
            p.x.man('r', p.side, p.home);
            Due.go(p.x, p.home, p.to);
            Due.same("not behind two cells of a rook", false, Due.can(p.x, p.foe, p.over));
        });
    }

    private static void passingByTheNextMove() {
        Page.says("the next move,");
        everyPassing(p -> {
            p.x.man('r', 0, 0);
            p.x.man('r', 1, p.last);
            Due.go(p.x, p.home, p.to);
            Due.same("by the next move", true, Due.can(p.x, p.foe, p.over));
            Due.go(p.x, p.side == 0 ? p.last : 0, p.side == 0 ? p.last - 1 : 1);
            Due.go(p.x, p.side == 0 ? 0 : p.last, p.side == 0 ? 1 : p.last - 1);
            Due.same("not by a later one", false, Due.can(p.x, p.foe, p.over));
            p.x.undo();
            p.x.undo();
            Due.same("but by the next one again", true, Due.can(p.x, p.foe, p.over));
        });
        Page.says("no side being told to move in between,");
        everyPassing(p -> {
            Due.go(p.x, p.home, p.to);
            p.x.turn(1 - p.side);
            Due.same("not if the same side is told to move", false, Due.can(p.x, p.foe, p.over));
        });
        everyPassing(p -> {
            Due.go(p.x, p.home, p.to);
            p.x.turn(p.side);
            p.x.turn(1 - p.side);
            Due.same("not if each side is told to move", false, Due.can(p.x, p.foe, p.over));
        });
    }

    /** The moves behind one. */
    private static String behind(int columns, int rows, int side, String men, int from, int to) {
        Bench x = Due.bench(columns, rows, side, men);
        Due.go(x, from, to);
        return Due.list(x);
    }

    private static void passingByPawnsAlone() {
        Page.says("can capture it en passant: by a pawn of the other side that goes diagonally ahead to the cell over which it went;");
        everyPassing(p -> {
            for (char kind : "kqrbnigc".toCharArray()) {
                Bench y = p.x.twin();
                y.lift(p.foe);
                y.man(kind, 1 - p.side, p.foe);
                Due.go(y, p.home, p.to);
                if (Due.can(y, p.foe, p.over)) {
                    Due.same("another man that goes there captures nothing", '.', Due.go(y, p.foe, p.over));
                    Due.same("the pawn stays", p.side == 0 ? 'P' : 'p', y.at(p.to));
                }
            }
        });
        Due.same("white's, not round the edge", "e3-e2", behind(5, 5, 0, "Pa2 pe3", 5, 15));
        Due.same("nor round the other one", "a5-a3 a5-a4", behind(5, 6, 0, "Pe2 pa5", 9, 19));
        Due.same("black's, not round the edge", "a3-a4", behind(5, 5, 1, "pe4 Pa3", 19, 9));
        Due.same("nor round the other one, black's", "e2-e3 e2-e4", behind(5, 6, 1, "pa5 Pe2", 20, 10));
        Due.same("not from the side", "c3-c2", behind(5, 5, 0, "Pb2 pc3", 6, 16));
        Due.same("not from behind", "c2-c1=Q c2-c1=R c2-c1=B c2-c1=N", behind(5, 5, 0, "Pb2 pc2", 6, 16));
        Due.same("not straight", "", behind(5, 6, 0, "Pb2 pb5", 6, 16));
        Due.same("from both sides", "a4-a2 a4-a3 a4xb3 c4-c2 c4xb3 c4-c3", behind(5, 5, 0, "Pb2 pa4 pc4", 6, 16));
    }

    private static void passingUnderConditions() {
        Page.says("conditions are those of the pawn that captures, by the men as they stand, and of the cell to which it goes.");
        Bench m = Edges.with("m", 6, 6, 0, "Pb2 pc4 Pd3");
        Due.go(m, 7, 19);
        Due.same("by m, a pawn that another one reaches", false, Due.can(m, 20, 13));
        m.condition('m', false);
        Due.same("without m", true, Due.can(m, 20, 13));
        Bench free = Edges.with("m", 6, 6, 0, "Pb2 pc4 pa5");
        Due.go(free, 7, 19);
        Due.same("by m, though the pawn captured is reached", true, Due.can(free, 20, 13));
        Bench p = Edges.with("p", 6, 6, 0, "Pb2 pc4 Pa3");
        Due.go(p, 7, 19);
        Due.same("by p, a pawn alone", false, Due.can(p, 20, 13));
        p.condition('p', false);
        Due.same("without p", true, Due.can(p, 20, 13));
        Bench reached = Edges.with("p", 6, 6, 0, "Pb2 pc4 nd6");
        Due.go(reached, 7, 19);
        Due.same("by p, a pawn that its own man reaches", true, Due.can(reached, 20, 13));
        Bench later = Edges.with("p", 6, 6, 0, "Pb2 pc4 ra3");
        Due.go(later, 7, 19);
        Due.same("by p, reached where it goes alone", false, Due.can(later, 20, 13));
        Bench through = Edges.with("p", 6, 6, 0, "Pb2 pc4 ra4");
        Due.go(through, 7, 19);
        Due.same("by p, reached only through the pawn that goes", false, Due.can(through, 20, 13));
        Bench g = Edges.with("g", 6, 6, 0, "Pb2 pa4 pc4");
        Due.go(g, 7, 19);
        Due.same("by g, to another block", true, Due.can(g, 20, 13));
        Due.same("by g, to its own one", false, Due.can(g, 18, 13));
        Bench black = Edges.with("g", 5, 5, 0, "Pb2 pa4 pc4");
        Due.go(black, 6, 16);
        Due.same("by g, from the next block aside", true, Due.can(black, 17, 11));
        Due.same("by g, in its own block", false, Due.can(black, 15, 11));
        black.condition('g', false);
        Due.same("without g", true, Due.can(black, 15, 11));
    }

    private static void order() {
        Page.says("Moves of a side are listed by the cells from which, then to which they go, then by queen, rook, bishop, knight.");
        String[] all = {"Ka1 Qb2 Rc3 Bd4 Ne5 If6 Gf1 Ca6 Pb5 na5", "Pb5 Pc5 Pd5 Pe5 ka6 nc6 ne6", "Pa5 Pf5 rb6 re6 Ka1 kf1", "Qa1 Qb1 Qc1 Qd1 Qe1 Qf1 qa6 qf6"};
        for (String men : all) {
            for (int side = 0; side < 2; side++) {
                Bench x = Due.bench(6, 6, side, men);
                int before = -1;
                for (int i = 0; i < x.moves(); i++) {
                    int place = (x.moveAt(i, 'f') * 36 + x.moveAt(i, 't')) * 5 + ".qrbn".indexOf(x.moveAt(i, 'p') == 0 ? '.' : (char) x.moveAt(i, 'p'));
                    Due.same("move " + i + " of " + men + " stands behind the one ahead of it", true, place > before);
                    before = place;
                }
            }
        }
        Due.same("all of it", "Ka1-b1 Ka1-a2 Nd1-b2 Nd1-c3 b3xa4=Q+ b3xa4=R+ b3xa4=B b3xa4=N b3-b4=Q+ b3-b4=R+ b3-b4=B b3-b4=N",
            Due.list(Due.bench(4, 4, 0, "Pb3 na4 Nd1 Ka1 kd4")));
    }

    private static void matedOrStale() {
        Page.says("The side that moves is mated if its king is in check and it has no lawful move,");
        aims("check and no move", true, false, "Kb3 Qb2 ka1");
        aims("check and a move of the king", false, false, "Kb4 Ra5 ka1");
        aims("check and a capture", false, false, "Kb4 Qb2 ka1");
        aims("check and a man between", false, false, "Kb3 Re1 ka1 rd3");
        aims("check and a man between that is pinned", true, false, "Kb3 Re1 ka1 ba2 Ra5");
        Page.says("and in stalemate if it has none, and its king is not in check, or there is none.");
        aims("no check and no move", false, true, "Ke5 Qc2 ka1");
        aims("no check and a move of another man", false, false, "Ke5 Qc2 ka1 pe3");
        aims("no check and another man that cannot go", false, true, "Ke5 Qc2 ka1 pe3 Ne2");
        aims("no king and no move", false, true, "pe3 Re2");
        aims("no king and a move", false, false, "pe3");
        aims("no man", false, true, "Ka1");
        aims("no man of either side", false, true, "");
    }

    /** Black to move is so, and white is, with all the other way about. */
    private static void aims(String what, boolean isMate, boolean isStalemate, String men) {
        Bench x = Due.bench(5, 5, 1, men);
        Due.same("mate, " + what, isMate, x.isAim('#'));
        Due.same("stalemate, " + what, isStalemate, x.isAim('='));
        StringBuilder turned = new StringBuilder();
        for (String man : men.isEmpty() ? new String[0] : men.split(" ")) {
            char letter = man.charAt(0);
            turned.append(turned.length() == 0 ? "" : " ");
            turned.append(Character.isUpperCase(letter) ? Character.toLowerCase(letter) : Character.toUpperCase(letter));
            turned.append(man.charAt(1)).append((char) ('1' + '5' - man.charAt(2)));
        }
        Bench y = Due.bench(5, 5, 0, turned.toString());
        Due.same("white's mate, " + what, isMate, y.isAim('#'));
        Due.same("white's stalemate, " + what, isStalemate, y.isAim('='));
    }

    private static void undone() {
        Page.says("Moves that are made can be undone,");
        for (String men : new String[] {"Ka1 kd5 Pb2 Pb4 na5 Rd1 rd3", "Pb4 pc2 na5 Nb1 ke3 Kc5", "Ka1 Gb2 ic3 Cd4 qe1"}) {
            for (int side = 0; side < 2; side++) {
                Bench x = Due.bench(5, 5, side, men);
                x.army('p', 0, 9);
                for (int i = 0; i < x.moves(); i++) {
                    undoneAlike(x.twin(), i, false);
                    undoneAlike(x.twin(), i, true);
                }
            }
        }
        Page.says("also behind a turn that is told:");
        Bench x = Due.bench(4, 4, 1, "Ka1 kd4");
        x.make(0);
        x.turn(1);
        x.make(0);
        x.turn(1);
        Due.same("behind a turn", 1, x.undo());
        Due.same("the side that was told", 1, x.turn(1));
        Due.same("behind another one", 0, x.undo());
        Due.same("the first side", 1, x.turn(1));
        Due.same("the first cell", 'k', x.at(15));
        Page.says("all is as ahead of the move then, the side that moves");
        Bench y = Due.bench(4, 4, 0, "Ka1 kd4");
        y.make(0);
        y.undo();
        Due.same("white", 0, y.turn(1));
        y.make(0);
        y.turn(1);
        y.undo();
        Due.same("black, told ahead of the move", 1, y.turn(0));
        everyPassing(p -> {
            p.x.man('r', 1 - p.side, p.side == 0 ? p.last : 0);
            Due.go(p.x, p.home, p.to);
            Due.go(p.x, p.side == 0 ? p.last : 0, p.side == 0 ? p.last - 1 : 1);
            p.x.turn(p.side);
            p.x.undo();
            Due.same("the pawn that could be captured en passant", true, Due.can(p.x, p.foe, p.over));
        });
        Page.says("and what was proved, too.");
        Bench proved = EdgesOfHistory.proved(0);
        for (int i = 0; i < proved.moves(); i++) {
            undoneAlike(proved.twin(), i, false);
            undoneAlike(proved.twin(), i, true);
            Bench z = proved.twin();
            z.make(i);
            z.turn(1);
            z.undo();
            Due.same("proved again, behind move " + i, true, Due.can(z, 17, 11));
        }
    }

    private static void undoneAlike(Bench x, int index, boolean isTurned) {
        String before = Due.print(x);
        x.make(index);
        if (isTurned) {
            x.turn(0);
            x.turn(1);
        }
        Due.same("none left behind move " + index, 0, x.undo());
        Due.same("all is as ahead of move " + index, before, Due.print(x));
    }

    private static void promiseMoves() {
        Page.open("Promise 9");
        Page.says("Returns how many lawful moves the side that moves has.");
        Page.says("Returns their number.");
        Due.same("without men", 0, new Bench().moves());
        Due.same("without its men", 0, Due.bench(5, 5, 1, "Qa1").moves());
        Due.same("mated", 0, Due.bench(5, 5, 1, "Kb3 Qb2 ka1").moves());
        Due.same("one", 1, Due.bench(4, 4, 0, "Pb2").moves());
        Due.same("a king's eight", 8, Due.bench(3, 3, 0, "Kb2").moves());
        Due.same("a queen's nineteen", 19, Due.bench(6, 6, 0, "Qc3").moves());
        Due.same("of the side that moves", 8, Due.bench(3, 3, 1, "kb2").moves());
        Due.same("four for one promotion", 4, Due.bench(3, 3, 0, "Pb2").moves());
        for (String queens : new String[] {"Qa1 Qb3 Qc5 Qd2 Qe4 Qf6", "Qa1 Qf1 Qa6 Qf6 Qb4 Qc2 Qd5 Qe3 Qb6 Qe1", "qa1 Qa6 Qb6 Qc6 Qd6 Qe6 Qf6 Qf5 Qf4 Qf3"}) {
            Bench x = Due.bench(6, 6, 0, queens);
            int due = 0;
            for (int cell = 0; cell < 36; cell++) {
                due += x.at(cell) == 'Q' ? queenGoes(x, cell) : 0;
            }
            Due.same(queens, due, x.moves());
        }
    }

    /** How many cells a queen of white can go to on 6 by 6, told by her lines. */
    private static int queenGoes(Bench x, int cell) {
        int many = 0;
        for (int way = 0; way < 9; way++) {
            int row = cell / 6 + way / 3 - 1;
            int column = cell % 6 + way % 3 - 1;
            boolean isOpen = way != 4;
            while (isOpen && row >= 0 && row < 6 && column >= 0 && column < 6) {
                char man = x.at(row * 6 + column);
                many += man == 'Q' ? 0 : 1;
                isOpen = man == '.';
                row += way / 3 - 1;
                column += way % 3 - 1;
            }
        }
        return many;
    }

    private static void promiseMoveAt() {
        Page.open("Promise 10");
        Page.says("Returns something of a lawful move.");
        Page.says("- `index`: the index, from 0");
        Page.says("- `what`: 'f' the cell from which, 't' to which, 'p' the letter that a pawn becomes, as a number, 0 for none, 'x' whether it captures, 1 or 0");
        Page.says("Returns the number.");
        Bench x = Due.bench(6, 6, 0, "Kf6 Pb5 na6 Pf2");
        String[] due = {"11 17 0 0", "11 23 0 0", "25 30 q 1", "25 30 r 1", "25 30 b 1", "25 30 n 1", "25 31 q 0", "25 31 r 0",
            "25 31 b 0", "25 31 n 0", "35 28 0 0", "35 29 0 0", "35 34 0 0"};
        Due.same("how many", due.length, x.moves());
        for (int i = 0; i < due.length; i++) {
            int becomes = Character.toLowerCase(x.moveAt(i, 'p'));
            Due.same("move " + i, due[i], x.moveAt(i, 'f') + " " + x.moveAt(i, 't') + " " + (becomes == 0 ? "0" : (char) becomes) + " " + x.moveAt(i, 'x'));
        }
        Bench corner = Due.bench(3, 3, 0, "Rb1 na1");
        Due.same("to the cell 0", "1 0 0 1", corner.moveAt(0, 'f') + " " + corner.moveAt(0, 't') + " " + corner.moveAt(0, 'p') + " " + corner.moveAt(0, 'x'));
        Bench passing = Due.bench(5, 5, 0, "Pb2 pc4");
        Due.go(passing, 6, 16);
        Due.same("en passant captures", "1 0 0", passing.moveAt(1, 'x') + " " + passing.moveAt(0, 'x') + " " + passing.moveAt(2, 'x'));
        Page.says("Throws `NoSuchElementException` if there is no such move");
        for (int index : Edges.badIndexes(13)) {
            Due.thrown("index " + index, Due.MISSING, x, () -> x.moveAt(index, 'f'));
            Due.thrown("ahead of no such thing", Due.MISSING, x, () -> x.moveAt(index, 'k'));
        }
        Bench none = new Bench();
        Due.thrown("without moves", Due.MISSING, none, () -> none.moveAt(0, 'f'));
        Page.says("Throws `IllegalArgumentException` if there is no such thing");
        for (char what : new char[] {'F', 'k', 'c', 'e', '.', (char) 0, (char) ('f' + 256), (char) 65535}) {
            Due.thrown("no such thing as " + (int) what, Due.ARGUMENT, x, () -> x.moveAt(0, what));
            Due.thrown("no such thing as " + (int) what, Due.ARGUMENT, x, () -> x.moveAt(12, what));
        }
    }

    private static void promiseMake() {
        Page.open("Promise 11");
        Page.says("Makes a lawful move;");
        Page.says("- `index`: the index, from 0");
        Bench x = Due.bench(5, 5, 0, "Kb1 Pb4 na5 kd5");
        for (int i = 0; i < x.moves(); i++) {
            Bench y = x.twin();
            char man = x.at(x.moveAt(i, 'f'));
            char becomes = Character.toUpperCase((char) x.moveAt(i, 'p'));
            y.make(i);
            Due.same("it is gone", '.', y.at(x.moveAt(i, 'f')));
            Due.same("it is there", becomes == 0 ? man : becomes, y.at(x.moveAt(i, 't')));
            Due.same("how many are left", 4 - x.moveAt(i, 'x'), y.array());
        }
        Page.says("the other side moves then.");
        Bench z = Due.bench(4, 4, 0, "Ka1 kd4");
        z.make(0);
        Due.same("black's turn", "Kd4-c3 Kd4-d3 Kd4-c4", Due.list(z));
        z.make(0);
        Due.same("white's turn", 0, z.turn(0));
        Page.says("Returns the letter of the man that is captured, '.' for none.");
        for (char kind : "qrbnigcp".toCharArray()) {
            Due.same("a man captured", kind, Due.go(Due.bench(3, 3, 0, "Kb1 " + kind + "b2"), 1, 4));
        }
        Edges.everyBoard((columns, rows) -> {
            for (int cell = 0; cell < columns * rows; cell++) {
                Bench y = Edges.empty(columns, rows);
                int from = cell < columns ? cell + columns : cell - columns;
                y.man('n', 1, cell);
                y.man('q', 0, from);
                Due.same("a man captured on " + cell, 'n', Due.go(y, from, cell));
            }
        });
        Due.same("none", '.', Due.go(Due.bench(3, 3, 0, "Kb1"), 1, 4));
        Page.says("Throws `NoSuchElementException` if there is no such move");
        for (int index : Edges.badIndexes(x.moves())) {
            Due.thrown("index " + index, Due.MISSING, x, () -> x.make(index));
        }
        Bench mated = Due.bench(5, 5, 1, "Kb3 Qb2 ka1");
        Due.thrown("mated", Due.MISSING, mated, () -> mated.make(0));
    }

    private static void promiseUndo() {
        Page.open("Promise 12");
        Page.says("Undoes the last move.");
        Page.says("Returns how many are left.");
        Bench x = Due.bench(5, 5, 0, "Ka1 ke5 Nb3 rc4");
        String[] prints = new String[6];
        for (int i = 0; i < 6; i++) {
            prints[i] = Due.print(x);
            x.make(i % x.moves());
        }
        for (int i = 5; i >= 0; i--) {
            Due.same("left", i, x.undo());
            Due.same("as ahead of move " + i, prints[i], Due.print(x));
        }
        Page.says("Throws `NoSuchElementException` if there is none");
        Due.thrown("all undone", Due.MISSING, x, () -> x.undo());
        Bench y = new Bench();
        Due.thrown("a new object", Due.MISSING, y, () -> y.undo());
        y.turn(1);
        Due.thrown("a turn is no move", Due.MISSING, y, () -> y.undo());
        Bench man = Due.bench(4, 4, 0, "Ka1");
        man.make(0);
        man.man('k', 1, 15);
        Due.thrown("a man was put", Due.MISSING, man, () -> man.undo());
        man.make(0);
        man.lift(10);
        Due.thrown("a man was taken off", Due.MISSING, man, () -> man.undo());
        Bench board = Due.bench(4, 4, 0, "Ka1");
        board.make(0);
        board.board(4, 4);
        Due.thrown("a board was laid", Due.MISSING, board, () -> board.undo());
    }

    private static void promiseIsCheck() {
        Page.open("Promise 13");
        Page.says("Tells whether the king of a side is in check.");
        Page.says("- `side`: the side, 0 or 1");
        Page.says("Returns true if so, false without a king.");
        for (int turn = 0; turn < 2; turn++) {
            Bench x = Due.bench(5, 5, turn, "Ka1 ra5 ke5");
            Due.same("white, " + turn + " moving", true, x.isCheck(0));
            Due.same("not black", false, x.isCheck(1));
            Bench y = Due.bench(5, 5, turn, "Ka1 Re1 ke5");
            Due.same("black, " + turn + " moving", true, y.isCheck(1));
            Due.same("not white", false, y.isCheck(0));
            Bench z = Due.bench(5, 5, turn, "Ra1 ra5");
            Due.same("white without a king", false, z.isCheck(0));
            Due.same("black without a king", false, z.isCheck(1));
        }
        Page.says("Throws `IllegalArgumentException` if there is no such side");
        Bench x = Due.bench(5, 5, 0, "Ka1 ra5 ke5");
        for (int side : Edges.BAD_SIDES) {
            Due.thrown("side " + side, Due.ARGUMENT, x, () -> x.isCheck(side));
        }
    }

    private static void promiseIsAim() {
        Page.open("Promise 14");
        Page.says("Tells whether the side that moves is mated, or in stalemate.");
        Page.says("- `aim`: '#' or '='");
        Page.says("Returns true if so.");
        Bench x = Due.bench(5, 5, 1, "Kb3 Qb2 ka1");
        Due.same("black is mated", true, x.isAim('#'));
        Due.same("not in stalemate", false, x.isAim('='));
        x.turn(0);
        Due.same("white is not mated", false, x.isAim('#'));
        Due.same("nor in stalemate", false, x.isAim('='));
        Bench y = Due.bench(5, 5, 1, "Ke5 Qc2 ka1");
        Due.same("black is in stalemate", true, y.isAim('='));
        Due.same("not mated", false, y.isAim('#'));
        Page.says("Throws `IllegalArgumentException` if there is no such aim");
        for (char aim : new char[] {'+', 'm', 'd', '.', ' ', (char) 0, (char) ('#' + 256), (char) ('=' + 256), (char) 65535}) {
            Due.thrown("aim " + (int) aim, Due.ARGUMENT, x, () -> x.isAim(aim));
        }
    }

    private static void promiseReach() {
        Page.open("Promise 15");
        Page.says("Returns cells of a man.");
        Page.says("- `cell`: the cell");
        Page.says("- `isStruck`: whether cells are meant that it strikes, otherwise those that it reaches");
        Bench x = Edges.with("p", 3, 3, 0, "Ra1 Kb3");
        Due.same("reached", 2 + 4 + 8 + 64, x.reach(0, false));
        Due.same("struck", 0, x.reach(0, true));
        Page.says("Returns the sum of 1 for the cell 0, 2 for the cell 1, and so on, modulo 1000003.");
        Due.same("the cell 0", 1, Due.bench(4, 4, 0, "Gc1 nb1").reach(2, false));
        Due.same("the cell 1", 2, Due.bench(4, 4, 0, "Gd1 nc1").reach(3, false));
        Due.same("the cell 19, within the modulus", 524288, Due.bench(4, 5, 0, "Gb5 nc5").reach(17, false));
        Due.same("the cell 20, over it", 48573, Due.bench(5, 5, 0, "Gc5 nb5").reach(22, false));
        Due.same("the cell 31, over the greatest int", 477207, Due.bench(6, 6, 0, "Pa5").reach(24, false));
        Due.same("the cell 35", 635291, Due.bench(6, 6, 0, "Ga6 ne6").reach(30, false));
        Due.same("several, over it", 491012, Due.bench(5, 5, 0, "Ra5").reach(20, false));
        Due.same("struck", 477207, Due.bench(6, 6, 0, "Pa5").reach(24, true));
        Due.same("none", 0, Due.bench(6, 6, 0, "Ga6").reach(30, false));
        Page.says("Throws `IndexOutOfBoundsException` if there is no such cell");
        for (int cell : Edges.badCells(9)) {
            Due.thrown("cell " + cell, Due.BOUNDS, x, () -> x.reach(cell, false));
            Due.thrown("cell " + cell, Due.BOUNDS, x, () -> x.reach(cell, true));
        }
        Page.says("Throws `NoSuchElementException` if there is no man");
        for (int cell = 1; cell < 7; cell++) {
            int c = cell;
            Due.thrown("cell " + c, Due.MISSING, x, () -> x.reach(c, false));
            Due.thrown("cell " + c, Due.MISSING, x, () -> x.reach(c, true));
        }
    }
}
