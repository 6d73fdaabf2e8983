/** Promises 9 to 18: moves. */
public final class MovesTest {
    public static void main(String[] args) {
        kindsReach();
        grasshoppersAndPawnsReach();
        reachThrows();
        kindsGo();
        pawnsGo();
        lawful();
        moveAt();
        make();
        undo();
        passing();
        passingOnceOnly();
        passingUnderConditions();
        isCheck();
        madrasi();
        grid();
        patrol();
        isAim();
        isPure();
        telling();
        tellingThrows();
        Due.end("MovesTest");
    }

    private static void reaches(String what, int columns, int rows, String men, String from, int... due) {
        Bench x = Due.bench(columns, rows, 0, men);
        Due.same("15: reached by " + what, Due.sum(due), x.reach(Due.cell(columns, from), false));
        Due.same("15: struck by " + what, Due.sum(due), x.reach(Due.cell(columns, from), true));
    }

    private static void kindsReach() {
        reaches("a king", 5, 5, "Ka1", "a1", 1, 5, 6);
        reaches("a king amid men", 3, 3, "kb2 Qa1 qc1", "b2", 0, 1, 2, 3, 5, 6, 7, 8);
        reaches("a knight", 5, 5, "Nc3", "c3", 1, 3, 5, 9, 15, 19, 21, 23);
        reaches("a camel in a corner", 5, 5, "ca1", "a1", 8, 16);
        reaches("a camel", 6, 6, "Cc3", "c3", 11, 23, 31, 33);
        reaches("a rook up to men of both sides", 5, 5, "Rc3 rd3 Nb3", "c3", 11, 13, 2, 7, 17, 22);
        reaches("a bishop", 5, 5, "bc3 Nb2", "c3", 6, 4, 8, 16, 20, 18, 24);
        reaches("a queen", 3, 3, "Qa1 qb1", "a1", 1, 3, 6, 4, 8);
        reaches("a nightrider", 6, 6, "Ia1", "a1", 8, 16, 13, 26);
        reaches("a nightrider that is stopped", 6, 6, "Ia1 nc2", "a1", 8, 13, 26);
        reaches("a nightrider in the midst", 5, 5, "ic3", "c3", 1, 3, 5, 9, 15, 19, 21, 23);
        reaches("the last cell of all", 6, 6, "Ra6", "a6", 0, 6, 12, 18, 24, 31, 32, 33, 34, 35);
    }

    private static void grasshoppersAndPawnsReach() {
        reaches("a grasshopper alone", 5, 5, "Gc3", "c3");
        reaches("a grasshopper over both sides", 5, 5, "Ga1 nc1 Nb2 na5", "a1", 3, 12);
        reaches("a grasshopper on to men", 5, 5, "ga1 nb1 Nc1", "a1", 2);
        reaches("a grasshopper, over the first man alone", 5, 5, "Ga1 Nb1 Nd1", "a1", 2);
        reaches("a white pawn", 5, 5, "Pb2", "b2", 10, 12);
        reaches("a black pawn", 5, 5, "pb4", "b4", 10, 12);
        reaches("a pawn on the edge", 5, 5, "Pa2", "a2", 11);
        reaches("a pawn on the other edge", 5, 5, "pe2", "e2", 3);
        reaches("a pawn, its own man", 5, 5, "Pb2 Na3 Nb3", "b2", 10, 12);
    }

    private static void reachThrows() {
        Bench x = Due.bench(3, 3, 0, "Ka1");
        Due.thrown("15: cell 9", Due.BOUNDS, x, () -> x.reach(9, false));
        Due.thrown("15: cell -1", Due.BOUNDS, x, () -> x.reach(-1, true));
        Due.thrown("15: a free cell", Due.MISSING, x, () -> x.reach(8, true));
    }

    private static void goes(String what, int columns, int rows, int side, String men, String due) {
        Due.same("9: " + what, due, Due.list(Due.bench(columns, rows, side, men)));
    }

    private static void kindsGo() {
        goes("none at all", 5, 5, 0, "", "");
        goes("none of the other side's", 5, 5, 1, "Qa1", "");
        goes("a king", 3, 3, 0, "Ka1 nc3", "Ka1-b2");
        goes("a rook, capturing one and stopped by its own", 5, 5, 0, "Ra1 Na2 nc1 Kc3", 
            "Ra1-b1 Ra1xc1 Na2xc1 Na2-b4 Kc3-b2 Kc3-c2 Kc3-d2 Kc3-b4 Kc3-c4 Kc3-d4");
        goes("a grasshopper", 4, 4, 0, "Ga1 nb1 nb2 nc3", "Ga1-c1 Ga1xc3");
        goes("a nightrider", 6, 6, 1, "ia1 Nc2", "Ia1xc2 Ia1-b3 Ia1-c5");
        goes("a camel", 4, 4, 1, "ca1 nd2", "Ca1-b4 Nd2-b1 Nd2-b3 Nd2-c4");
        goes("kings are not captured", 3, 3, 0, "Ra1 ka3", "Ra1-b1 Ra1-c1 Ra1-a2+");
    }

    private static void pawnsGo() {
        goes("a pawn by one cell and two", 5, 5, 0, "Pb2", "b2-b3 b2-b4");
        goes("a black one", 5, 5, 1, "pb4", "b4-b2 b4-b3");
        goes("on six rows", 6, 6, 1, "pb5", "b5-b3 b5-b4");
        goes("not by two cells on four rows", 4, 4, 0, "Pb2", "b2-b3");
        goes("nor black", 4, 4, 1, "pb3", "b3-b2");
        goes("nor from another row", 6, 6, 0, "Pb3", "b3-b4");
        goes("stopped at once", 5, 5, 0, "Pb2 nb3", "");
        goes("stopped at the second cell", 5, 5, 0, "Pb2 nb4", "b2-b3");
        goes("capturing aslant, not its own", 5, 5, 0, "Pb2 na3 Nc3", "b2xa3 b2-b3 b2-b4 Nc3-b1 Nc3-d1 Nc3-a2 Nc3-e2 Nc3-a4 Nc3-e4 Nc3-b5 Nc3-d5");
        goes("promoted", 5, 5, 0, "Pb4 na5 nb5", "b4xa5=Q b4xa5=R b4xa5=B b4xa5=N");
        goes("promoted, black, straight", 3, 3, 1, "pb2", "b2-b1=Q b2-b1=R b2-b1=B b2-b1=N");
        goes("from the second row to the last but one, on five", 5, 5, 1, "pb4 Nb1", "b4-b2 b4-b3");
    }

    private static void lawful() {
        goes("a rook that is pinned", 5, 5, 0, "Ka1 Rb1 re1", "Ka1-a2 Ka1-b2 Rb1-c1 Rb1-d1 Rb1xe1");
        goes("without its king", 3, 3, 0, "Rb1 rc1", "Rb1-a1 Rb1xc1 Rb1-b2 Rb1-b3");
        goes("out of check", 3, 3, 0, "Ka1 rc1 Nb3", "Ka1-a2 Ka1-b2 Nb3xc1");
        goes("not beside the other king", 3, 3, 0, "Ka1 ka3", "Ka1-b1");
        Bench x = Due.bench(5, 5, 0, "Ka1 Rb1 re1");
        Due.same("9: how many", 5, x.moves());
        x.turn(1);
        Due.same("9: of black", 7, x.moves());
    }

    private static void moveAt() {
        Bench x = Due.bench(5, 5, 0, "Pb4 na5 Kc1");
        Due.same("10: order", "Kc1-b1 Kc1-d1 Kc1-b2 Kc1-c2 Kc1-d2 b4xa5=Q b4xa5=R b4xa5=B b4xa5=N b4-b5=Q b4-b5=R b4-b5=B b4-b5=N", Due.list(x));
        Due.same("10: f", 2, x.moveAt(0, 'f'));
        Due.same("10: t", 1, x.moveAt(0, 't'));
        Due.same("10: p of a king", 0, x.moveAt(0, 'p'));
        Due.same("10: x of a step", 0, x.moveAt(0, 'x'));
        Due.same("10: x", 1, x.moveAt(8, 'x'));
        Due.same("10: x of a pawn's step", 0, x.moveAt(9, 'x'));
        String become = "qrbnqrbn";
        for (int i = 0; i < 8; i++) {
            Due.same("10: p of " + i, (int) become.charAt(i), x.moveAt(5 + i, 'p'));
            Due.same("10: t of " + i, i < 4 ? 20 : 21, x.moveAt(5 + i, 't'));
        }
        Due.thrown("10: index 13", Due.MISSING, x, () -> x.moveAt(13, 'f'));
        Due.thrown("10: index -1", Due.MISSING, x, () -> x.moveAt(-1, 'f'));
        Due.thrown("10: index -1, ahead of no such thing", Due.MISSING, x, () -> x.moveAt(-1, 'k'));
        Due.thrown("10: no such thing", Due.ARGUMENT, x, () -> x.moveAt(0, 'k'));
        Bench black = Due.bench(3, 3, 1, "pb2");
        Due.same("10: p of black", (int) 'n', black.moveAt(3, 'p'));
    }

    private static void make() {
        Bench x = Due.bench(5, 5, 0, "Pb4 na5 Kc1 ke4");
        Due.thrown("11: index 13", Due.MISSING, x, () -> x.make(13));
        Due.thrown("11: index -1", Due.MISSING, x, () -> x.make(-1));
        Due.same("11: a knight of black", 'n', x.make(8));
        Due.same("11: the promoted pawn", 'N', x.at(20));
        Due.same("11: its cell", '.', x.at(16));
        Due.same("11: no man", '.', Due.go(x, 19, 14));
        Due.same("11: white again", 0, x.turn(1));
        x.board(3, 3);
        Due.lay(x, 3, "Qa1 ra3");
        x.turn(1);
        Due.same("11: a queen of white", 'Q', Due.go(x, 6, 0));
        Due.same("11: its man is there", 'r', x.at(0));
        Due.same("11: one man", 1, x.array());
    }

    private static void undo() {
        Bench x = Due.bench(5, 5, 0, "Pb4 na5 Kc1 ke4 Pd2 pc4");
        Due.thrown("12: none made", Due.MISSING, x, () -> x.undo());
        String first = Due.print(x);
        Due.go(x, 16, 20);
        Due.go(x, 17, 12);
        Due.go(x, 8, 12);
        Due.same("12: two left", 2, x.undo());
        Due.same("12: one left", 1, x.undo());
        Due.same("12: none left", 0, x.undo());
        Due.same("12: all is as before", first, Due.print(x));
        Due.thrown("12: no more", Due.MISSING, x, () -> x.undo());
        Due.go(x, 8, 18);
        String before = Due.print(x);
        Due.same("12: it can be captured en passant", true, Due.can(x, 17, 13));
        Due.go(x, 17, 13);
        x.turn(1);
        x.turn(0);
        x.turn(1);
        Due.same("12: behind turns, too", 1, x.undo());
        Due.same("12: the side and the pawn are as before", before, Due.print(x));
        x.turn(1);
        Due.same("12: told to move, no more", false, Due.can(x, 17, 13));
        Due.go(x, 19, 14);
        x.undo();
        Due.same("12: nor behind it", false, Due.can(x, 17, 13));
        Due.same("12: the first one", 0, x.undo());
        Due.same("12: all is as before it", first, Due.print(x));
        Bench y = HistoryTest.proved();
        y.prove();
        Due.go(y, 17, 11);
        y.undo();
        Due.same("12: what was proved is proved", true, Due.can(y, 17, 11));
        Bench z = Due.bench(4, 4, 0, "Ka1");
        Due.go(z, 0, 1);
        z.condition('g', true);
        z.array();
        z.undo();
        Due.same("12: a condition is no move", true, z.condition('g', false));
    }

    private static void passing() {
        Bench x = Due.bench(5, 5, 0, "Pb2 pc4 pa4");
        Due.same("11: by two cells nothing is captured", '.', Due.go(x, 6, 16));
        Due.same("9: en passant, from both sides, in order", "a4-a2 a4-a3 a4xb3 c4-c2 c4xb3 c4-c3", Due.list(x));
        Due.same("10: it captures", 1, x.moveAt(4, 'x'));
        Due.same("10: to the cell over which the pawn went", 11, x.moveAt(4, 't'));
        Due.same("17: told", 5, x.told(4, 0));
        Due.same("11: the pawn is captured", 'P', x.make(4));
        Due.same("11: it is gone", '.', x.at(16));
        Due.same("11: the other is there", 'p', x.at(11));
        Due.same("12: undone", 1, x.undo());
        Due.same("12: it is back", 'P', x.at(16));
        Due.same("12: so is the other", 'p', x.at(17));
        Due.same("12: nothing is between", '.', x.at(11));
        Bench y = Due.bench(6, 6, 1, "pb5 Pc3 kf6");
        Due.go(y, 25, 13);
        Due.same("9: white en passant", true, Due.can(y, 14, 19));
        Due.same("11: black's pawn", 'p', Due.go(y, 14, 19));
        Due.same("11: gone", '.', y.at(13));
        Bench z = Due.bench(6, 6, 0, "Ra4 Pb2 pc4 kf4");
        Due.go(z, 7, 19);
        Due.same("9: not if the king is in check then", false, Due.can(z, 20, 13));
    }

    private static void passingOnceOnly() {
        Bench x = Due.bench(5, 5, 0, "Pb2 pc4 Re1 re5");
        Due.go(x, 6, 16);
        Due.go(x, 24, 23);
        Due.go(x, 4, 3);
        Due.same("9: by the next move alone", false, Due.can(x, 17, 11));
        x.undo();
        x.undo();
        Due.same("9: but that one again", true, Due.can(x, 17, 11));
        x.turn(1);
        Due.same("9: not if a side is told to move", false, Due.can(x, 17, 11));
        Bench y = Due.bench(5, 5, 0, "Pb2 pc3 pc4");
        Due.go(y, 6, 11);
        Due.same("9: not behind one cell", "c3-c2 c4xb3", Due.list(y));
        Bench v = Due.bench(4, 5, 0, "Pb2 Pd3 pc3");
        Due.go(v, 5, 9);
        Due.same("9: nor another pawn", "c3-c2", Due.list(v));
        Bench u = Due.bench(4, 5, 0, "Pa2 pb2 Rd4 Kd5");
        Due.go(u, 15, 14);
        Due.same("9: nor from the cell 0", "b2-b1=Q b2-b1=R b2-b1=B b2-b1=N", Due.list(u).replace("+", ""));
        Bench z = Due.bench(5, 5, 0, "Rb2 pc4");
        Due.go(z, 6, 16);
        Due.same("9: nor a rook", false, Due.can(z, 17, 11));
        Bench w = Due.bench(6, 6, 0, "Pb2 Pb3 pc4");
        Due.go(w, 13, 19);
        Due.same("9: nor from another row", false, Due.can(w, 20, 13));
    }

    private static void passingUnderConditions() {
        Bench x = Due.bench(6, 6, 0, "Pb2 pc4 Pd3");
        x.condition('m', true);
        Due.go(x, 7, 19);
        Due.same("9: a paralysed pawn does not capture en passant", false, Due.can(x, 20, 13));
        x.condition('m', false);
        Due.same("9: another one does", true, Due.can(x, 20, 13));
        x.condition('p', true);
        Due.same("9: nor one that no man reaches", false, Due.can(x, 20, 13));
        x.man('k', 1, 27);
        Due.same("9: but one that its king reaches", true, Due.can(x, 20, 13));
        x.condition('p', false);
        x.condition('g', true);
        Due.same("9: to another block", true, Due.can(x, 20, 13));
        Bench y = Due.bench(6, 6, 0, "Pc2 pd4");
        Due.go(y, 8, 20);
        Due.same("9: to its own one, without blocks", true, Due.can(y, 21, 14));
        y.condition('g', true);
        Due.same("9: not to its own one", false, Due.can(y, 21, 14));
    }

    private static void isCheck() {
        Bench x = Due.bench(5, 5, 0, "Ka1 ra5 ke5");
        Due.same("13: white", true, x.isCheck(0));
        Due.same("13: not black", false, x.isCheck(1));
        x.turn(1);
        Due.same("13: whoever moves", true, x.isCheck(0));
        Due.thrown("13: side 2", Due.ARGUMENT, x, () -> x.isCheck(2));
        Due.thrown("13: side -1", Due.ARGUMENT, x, () -> x.isCheck(-1));
        Due.same("13: no king", false, Due.bench(5, 5, 0, "Qa1 ra5").isCheck(0));
        Due.same("13: by a pawn", true, Due.bench(5, 5, 0, "Ka1 pb2").isCheck(0));
        Due.same("13: not by its step", false, Due.bench(5, 5, 0, "Ka1 pa2").isCheck(0));
        Due.same("13: not from behind", false, Due.bench(5, 5, 0, "Kb3 pa2 pc2").isCheck(0));
        Due.same("13: by white's pawn", true, Due.bench(5, 5, 0, "kb3 Pa2").isCheck(1));
        Due.same("13: by a grasshopper", true, Due.bench(5, 5, 0, "Ka1 Nb2 ge5").isCheck(0));
        Due.same("13: not without a man between", false, Due.bench(5, 5, 0, "Ka1 ge5").isCheck(0));
        Due.same("13: nor beside it", false, Due.bench(5, 5, 0, "Ka1 Nd4 ge5").isCheck(0));
        Due.same("13: by a nightrider", true, Due.bench(5, 5, 0, "Ka1 ic5").isCheck(0));
        Due.same("13: stopped", false, Due.bench(5, 5, 0, "Ka1 ic5 Nb3").isCheck(0));
        Due.same("13: by a camel", true, Due.bench(5, 5, 0, "Ka1 cd2").isCheck(0));
        Due.same("13: by a king", true, Due.bench(5, 5, 0, "Ka1 kb2").isCheck(1));
        for (String men : new String[] {"ra1 Ke1", "qa1 Ke5", "ba1 Ke5", "na1 Kb3", "ia1 Kc5", "ga1 Nd4 Ke5", "ca1 Kb4", "ka1 Kb2"}) {
            Due.same("13: from the cell 0, " + men, true, Due.bench(5, 5, 0, men).isCheck(0));
        }
        Due.same("13: not by its own", false, Due.bench(5, 5, 0, "Ka1 Ra5").isCheck(0));
    }

    private static void madrasi() {
        Bench x = Due.bench(5, 5, 0, "Ka1 ra5 Re5");
        Due.same("7: check", true, x.isCheck(0));
        x.condition('m', true);
        Due.same("13: a paralysed rook gives none", false, x.isCheck(0));
        Due.same("15: it strikes nothing", 0, x.reach(20, true));
        Due.same("15: it reaches as much", Due.sum(0, 5, 10, 15, 21, 22, 23, 24), x.reach(20, false));
        Due.same("9: it cannot go", "Ka1-b1 Ka1-a2 Ka1-b2", Due.list(x));
        x.man('n', 1, 22);
        Due.same("13: with a man between it does", true, x.isCheck(0));
        Due.same("9: kings are not paralysed", "Ka1-b1", Due.list(withM(3, 3, 0, "Ka1 ka3")));
        Due.same("9: a like man alone", "Ra1-b1 Ra1-c1 Ra1-d1 Ra1-e1 Ra1-a2 Ra1-a3 Ra1-a4 Ra1xa5", Due.list(withM(5, 5, 0, "Ra1 qa5")));
        Due.same("9: pawns", "", Due.list(withM(5, 5, 0, "Pb2 pc3")));
        Due.same("9: not those side by side", "b3-b4", Due.list(withM(5, 5, 0, "Pb3 pc3")));
        Due.same("9: a grasshopper that is reached", "Nb1-d2 Nb1-a3 Nb1-c3", Due.list(withM(5, 5, 0, "Ga1 Nb1 gd1")));
        Due.same("9: but does not reach the other", "Gd1xa1", Due.list(withM(5, 5, 1, "Ga1 Nb1 gd1")));
        Due.same("15: grasshoppers", 0, withM(5, 5, 0, "Ga1 Nb1 gc1").reach(0, true));
        Due.same("15: of its own side", Due.sum(1, 2, 3, 4, 6, 8), withM(3, 3, 0, "Qa1 Qc3").reach(0, true));
    }

    private static Bench withM(int columns, int rows, int side, String men) {
        return with('m', columns, rows, side, men);
    }

    private static Bench with(char condition, int columns, int rows, int side, String men) {
        Bench x = Due.bench(columns, rows, side, men);
        x.condition(condition, true);
        return x;
    }

    private static void grid() {
        Due.same("9: a king in the corner", "", Due.list(with('g', 5, 5, 0, "Ka1")));
        Due.same("9: a king in the midst", "Kc3-b2 Kc3-c2 Kc3-d2 Kc3-b3 Kc3-b4", Due.list(with('g', 5, 5, 0, "Kc3")));
        Due.same("9: a king in a block of one column", "Ke1-d1 Ke1-d2", Due.list(with('g', 5, 5, 0, "Ke1")));
        Due.same("9: a king in a block of one cell", "Ke5-d4 Ke5-e4 Ke5-d5", Due.list(with('g', 5, 5, 0, "Ke5")));
        Due.same("13: no check in a block", false, with('g', 5, 5, 0, "Ka1 qb2").isCheck(0));
        Due.same("13: from another one", true, with('g', 5, 5, 0, "Ka1 qc3").isCheck(0));
        Due.same("9: nor a capture", "Ra1-c1 Ra1-a3", Due.list(with('g', 3, 3, 0, "Ra1")));
        Due.same("9: a pawn by two cells", "b2-b3 b2-b4", Due.list(with('g', 5, 5, 0, "Pb2")));
        Due.same("9: not by one in its block", "", Due.list(with('g', 5, 5, 0, "Pb3")));
        Due.same("15: struck", Due.sum(2, 3, 4, 10, 15, 20), with('g', 5, 5, 0, "Ra1").reach(0, true));
        Due.same("15: reached", Due.sum(1, 2, 3, 4, 5, 10, 15, 20), with('g', 5, 5, 0, "Ra1").reach(0, false));
    }

    private static void patrol() {
        Due.same("13: a rook alone gives no check", false, with('p', 5, 5, 0, "Ka1 ra5").isCheck(0));
        Due.same("13: one that is reached does", true, with('p', 5, 5, 0, "Ka1 ra5 nb3").isCheck(0));
        Due.same("13: not by the other side's man", false, with('p', 5, 5, 0, "Ka1 ra5 Nb3").isCheck(0));
        Due.same("9: alone it goes, but captures nothing", "Ra1-b1 Ra1-a2", Due.list(with('p', 3, 3, 0, "Ra1 nc1 na3")));
        Due.same("9: reached, it does, but not the king", "Ra1-b1 Ra1xc1 Ra1-a2 Ra1xa3 Kb2-b1 Kb2-a2 Kb2-c2 Kb2-b3 Kb2-c3",
            Due.list(with('p', 3, 3, 0, "Ra1 Kb2 nc1 na3")));
        Due.same("9: a king alone neither", "Ka1-b1 Ka1-b2", Due.list(with('p', 3, 3, 0, "Ka1 na2")));
        Due.same("13: kings side by side", false, with('p', 3, 3, 0, "Ka1 kb2").isCheck(0));
        Due.same("13: a king that is reached strikes", true, with('p', 3, 3, 0, "Ka1 kb2 rc2").isCheck(0));
        Due.same("15: a pawn alone strikes nothing", 0, with('p', 5, 5, 0, "Pb2").reach(6, true));
        Due.same("15: a pawn that is reached does", Due.sum(10, 12), with('p', 5, 5, 0, "Pb2 Ka1").reach(6, true));
        Bench x = with('p', 5, 5, 0, "Ka1 ra5 re5 Re1");
        x.condition('m', true);
        Due.same("13: reached by one that is paralysed", true, x.isCheck(0));
        Due.same("15: the other rook strikes nothing", 0, x.reach(24, true));
    }

    private static void isAim() {
        Bench x = Due.bench(5, 5, 1, "Kb3 Qb2 ka1");
        Due.same("14: mate", true, x.isAim('#'));
        Due.same("14: no stalemate", false, x.isAim('='));
        x.turn(0);
        Due.same("14: white is not mated", false, x.isAim('#'));
        Due.same("14: nor in stalemate", false, x.isAim('='));
        Bench y = Due.bench(5, 5, 1, "Ke5 Qc2 ka1");
        Due.same("14: stalemate", true, y.isAim('='));
        Due.same("14: no mate", false, y.isAim('#'));
        Due.same("14: stalemate without a king", true, Due.bench(5, 5, 1, "pb3 Nb2").isAim('='));
        Due.same("14: without men", true, new Bench().isAim('='));
        Due.same("14: no mate without a king", false, new Bench().isAim('#'));
        Due.same("14: check alone", false, Due.bench(5, 5, 1, "ka1 Ra5").isAim('#'));
        Due.same("14: moves without check", false, Due.bench(5, 5, 1, "ka1").isAim('='));
        Due.thrown("14: no such aim", Due.ARGUMENT, x, () -> x.isAim('+'));
        Due.thrown("14: none", Due.ARGUMENT, x, () -> x.isAim((char) 0));
        Bench z = Due.bench(5, 5, 0, "Pb2 Nc3 pc4");
        Due.go(z, 6, 16);
        Due.same("14: no stalemate, for en passant", false, z.isAim('='));
        z.turn(1);
        Due.same("14: stalemate without it", true, z.isAim('='));
    }

    private static void pure(String what, boolean due, String men) {
        Due.same("16: " + what, due, Due.bench(5, 5, 1, men).isPure());
    }

    private static void isPure() {
        pure("each cell struck once", true, "Kb3 Re1 ka1");
        pure("two cells struck twice", false, "Kb3 Re1 Nc3 ka1");
        pure("a queen and a king that strike the same", false, "Kb3 Qb2 ka1");
        pure("its own pawn beside", true, "Kc2 Nb3 pa2 ka1");
        pure("its own pawn struck", false, "Kc2 Nb3 pa2 ka1 Ra5");
        pure("through the king", true, "Kb3 Re1 kb1");
        pure("a man of the other side beside, struck once", true, "Kc2 Nb3 Bb1 ka1");
        pure("and struck twice", false, "Kc2 Nb3 Bb1 Re1 ka1");
        pure("struck twice on the cell 0 alone", false, "Kb3 Re1 Nc2 kb1");
        pure("no mate, but check", false, "Kb4 Re1 ka1");
        pure("stalemate", false, "Ke5 Qc2 ka1");
        pure("no king", false, "Qc2");
        Bench x = Due.bench(5, 5, 0, "Kb3 Re1 ka1");
        Due.same("16: the other side moves", false, x.isPure());
        Due.same("16: white mated", true, Due.bench(5, 5, 0, "kb3 re1 Ka1").isPure());
    }

    private static void telling() {
        Bench x = Due.bench(6, 6, 0, "Kf6 Qa1 Rb1 Bc1 Nd1 Ie1 Gf1 Cf2");
        String[] letters = {"KQRBNIGC", "KDTLSIGC"};
        for (int tongue = 0; tongue < 2; tongue++) {
            StringBuilder got = new StringBuilder();
            int cell = -1;
            for (int i = 0; i < x.moves(); i++) {
                if (x.moveAt(i, 'f') != cell) {
                    cell = x.moveAt(i, 'f');
                    got.append(x.sign(i, tongue, 0));
                }
            }
            String due = letters[tongue].substring(1) + letters[tongue].charAt(0);
            Due.same("18: letters in the tongue " + tongue, due, got.toString());
        }
        Bench y = Due.bench(5, 5, 0, "Pb4 na5 kd5");
        String[] due = {"b4xa5=Q+ b4xa5=R+ b4xa5=B b4xa5=N b4-b5=Q+ b4-b5=R+ b4-b5=B b4-b5=N",
            "b4xa5=D+ b4xa5=T+ b4xa5=L b4xa5=S b4-b5=D+ b4-b5=T+ b4-b5=L b4-b5=S"};
        for (int tongue = 0; tongue < 2; tongue++) {
            String[] words = due[tongue].split(" ");
            for (int i = 0; i < words.length; i++) {
                Due.same("18: a promotion", words[i], Due.text(y, i, tongue));
                Due.same("17: its length", words[i].length(), y.told(i, tongue));
            }
        }
        Bench z = Due.bench(5, 5, 0, "Kb3 Re5 ka1");
        Due.same("18: mate", true, (Due.list(z) + " ").contains(" Re5-e1# "));
        Due.same("18: check", true, (Due.list(z) + " ").contains(" Re5-a5+ "));
        Due.same("18: neither", true, (Due.list(z) + " ").contains(" Re5-e4 "));
        Due.same("18: stalemate is not told", true, (Due.list(Due.bench(5, 5, 0, "Ke5 Qc3 ka1")) + " ").contains(" Qc3-c2 "));
        Bench b = Due.bench(5, 5, 1, "na3 Nb1 Ke5");
        Due.same("18: black's letters are capital ones, too", "Na3xb1 Na3-c2 Na3-c4+ Na3-b5", Due.list(b));
    }

    private static void tellingThrows() {
        Bench x = Due.bench(3, 3, 0, "Ka1");
        Due.thrown("17: index 3", Due.MISSING, x, () -> x.told(3, 0));
        Due.thrown("17: index -1, ahead of no such tongue", Due.MISSING, x, () -> x.told(-1, 2));
        Due.thrown("17: tongue 2", Due.ARGUMENT, x, () -> x.told(0, 2));
        Due.thrown("17: tongue -1", Due.ARGUMENT, x, () -> x.told(0, -1));
        Due.same("17: told", 6, x.told(0, 1));
        Due.thrown("18: index 3, ahead of all", Due.MISSING, x, () -> x.sign(3, 2, 9));
        Due.thrown("18: index -1", Due.MISSING, x, () -> x.sign(-1, 0, 0));
        Due.thrown("18: tongue 2, ahead of no such sign", Due.ARGUMENT, x, () -> x.sign(0, 2, 9));
        Due.thrown("18: tongue -1", Due.ARGUMENT, x, () -> x.sign(0, -1, 0));
        Due.thrown("18: place 6", Due.BOUNDS, x, () -> x.sign(0, 0, 6));
        Due.thrown("18: place -1", Due.BOUNDS, x, () -> x.sign(0, 0, -1));
        Due.same("18: the last one but one", 'b', x.sign(0, 0, 4));
        Due.same("18: the last one", '1', x.sign(0, 0, 5));
    }
}
