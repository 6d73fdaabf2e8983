/** Promises 25 to 30: history. */
public final class HistoryTest {
    public static void main(String[] args) {
        isPossible();
        lasts();
        lastsByCaptures();
        lastsOfPawns();
        lastsEnPassant();
        lastsUnderConditions();
        lastAt();
        prove();
        notProved();
        array();
        games();
        gamesEnPassant();
        Due.end("HistoryTest");
    }

    /** Black is to move; white's pawn can only have come to b4 by two cells, for from b3 it would check the king. */
    static Bench proved() {
        Bench x = Due.bench(5, 5, 1, "Pb4 pc4 ka4");
        onlyKingAndPawns(x, 1);
        return x;
    }

    /** Captures of a side's men cannot have been then, but for pawns. */
    private static void onlyKingAndPawns(Bench x, int side) {
        for (char kind : "qrbn".toCharArray()) {
            x.army(kind, side, 0);
        }
        x.army('p', side, 1);
    }

    private static void isPossible() {
        Bench x = new Bench();
        Due.same("25: no men", true, x.isPossible());
        Due.same("25: one king", true, Due.bench(5, 5, 0, "Ka1").isPossible());
        Due.same("25: check of the side that moves", true, Due.bench(5, 5, 0, "Ka1 ra5").isPossible());
        Due.same("25: check of the other one", false, Due.bench(5, 5, 1, "Ka1 ra5").isPossible());
        Due.same("25: a nightrider", false, Due.bench(5, 5, 0, "Ia1").isPossible());
        Bench i = Due.bench(5, 5, 0, "Ia1");
        i.army('i', 1, 1);
        Due.same("25: of the other army", false, i.isPossible());
        i.army('i', 0, 1);
        Due.same("25: of its own army", true, i.isPossible());
        Bench q = Due.bench(6, 6, 0, "Qa1 Qb1 Qc1 Qd1 Qe1 Qf1 Qa2");
        Due.same("25: seven queens", true, q.isPossible());
        q.man('r', 0, 7);
        q.man('r', 0, 8);
        Due.same("25: and two rooks", true, q.isPossible());
        q.man('r', 0, 9);
        Due.same("25: and three", false, q.isPossible());
        q.lift(9);
        q.man('p', 0, 9);
        Due.same("25: or a pawn", false, q.isPossible());
        q.army('p', 0, 7);
        Due.same("25: with one more pawn in the army", true, q.isPossible());
        q.army('q', 0, 0);
        Due.same("25: and no queen", false, q.isPossible());
        q.army('p', 0, 8);
        Due.same("25: and one more", true, q.isPossible());
        Bench p = Due.bench(4, 4, 0, "pa2 pb2 pc2 pd2 pa3 pb3");
        Due.same("25: six pawns", true, p.isPossible());
        p.man('p', 1, 10);
        Due.same("25: seven", false, p.isPossible());
        Bench k = Due.bench(5, 5, 0, "Ka1");
        k.army('k', 0, 0);
        Due.same("25: a king that the army has not", false, k.isPossible());
        k.army('p', 0, 9);
        Due.same("25: is no promoted pawn", false, k.isPossible());
        k.army('k', 0, 9);
        Due.same("25: one king of nine", true, k.isPossible());
    }

    private static void last(String what, int columns, int rows, int side, String men, String due) {
        Due.same("26: " + what, due, Due.lasts(Due.bench(columns, rows, side, men)));
    }

    private static void lasts() {
        last("no men", 5, 5, 0, "", "");
        last("of the side that moves", 5, 5, 0, "Qc3", "");
        Bench x = Due.bench(3, 3, 0, "ka1 Kc1");
        onlyKingAndPawns(x, 0);
        x.army('p', 0, 0);
        Due.same("26: a king, not from beside the other", "k3-0", Due.lasts(x));
        x.turn(1);
        Due.same("26: white's", "k5-2 k5-2q k5-2r k5-2b k5-2n", Due.lasts(x));
        Bench y = Due.bench(3, 3, 0, "ka1 Kc3 Rb1");
        onlyKingAndPawns(y, 0);
        y.army('p', 0, 0);
        Due.same("26: none, if it is in check", "", Due.lasts(y));
        y.board(3, 3);
        Due.lay(y, 3, "na1 Kc3");
        y.army('p', 1, 0);
        Due.same("26: a knight, in order of the cells", "n5-0 n7-0", Due.lasts(y));
        y.board(4, 4);
        Due.lay(y, 4, "na1 Ka3");
        Due.same("26: not from where it checked the king", "n9-0", Due.lasts(y));
        y.board(4, 4);
        Due.lay(y, 4, "ga1 Na2 Nb1");
        y.army('n', 0, 2);
        Due.same("26: a grasshopper that the army has not", "", Due.lasts(y));
        y.army('g', 1, 1);
        Due.same("26: a grasshopper, over a man", "g2-0 g3-0 g8-0 g12-0", Due.lasts(y));
        y.board(4, 4);
        Due.lay(y, 4, "rd1 ka4");
        y.army('p', 1, 6);
        y.army('n', 0, 0);
        Due.same("26: in order of the cells to which they went",
            "r0-3 r1-3 r2-3 r7-3 p7-3 r11-3 r15-3 k8-12 k9-12 k13-12", Due.lasts(y));
    }

    private static void lastsByCaptures() {
        Bench z = Due.bench(3, 3, 1, "Nb3");
        z.army('p', 0, 0);
        Due.same("26: captures in order", "n0-7 n0-7q n0-7r n0-7b n0-7n n2-7 n2-7q n2-7r n2-7b n2-7n", Due.lasts(z));
        for (char kind : "igc".toCharArray()) {
            z.army(kind, 1, 1);
        }
        z.army('q', 1, 0);
        Due.same("26: of nightriders, grasshoppers and camels, too", "n0-7 n0-7q n0-7r n0-7b n0-7n n0-7i n0-7g n0-7c "
            + "n2-7 n2-7q n2-7r n2-7b n2-7n n2-7i n2-7g n2-7c", Due.lasts(z));
        z.army('p', 1, 0);
        Due.same("26: no queen, without pawns", false, Due.lasts(z).contains("q"));
        Bench w = Due.bench(4, 4, 1, "Nb2");
        Due.same("26: pawns last", "n3-5 n3-5q n3-5r n3-5b n3-5n n3-5p n11-5 n11-5q n11-5r n11-5b n11-5n n11-5p "
            + "n12-5 n12-5q n12-5r n12-5b n12-5n n12-5p n14-5 n14-5q n14-5r n14-5b n14-5n n14-5p", Due.lasts(w));
        Bench full = Due.bench(6, 6, 1, "Na1 nf6 bf5 rf4 qe6 ke5 pb5 pc5 pd5 pb4");
        Due.same("26: an eleventh man may have been captured", true, Due.lasts(full).contains("n8-0q"));
    }

    private static void lastsOfPawns() {
        Bench x = Due.bench(5, 5, 1, "Pb3");
        onlyKingAndPawns(x, 1);
        x.army('p', 1, 0);
        Due.same("26: a pawn from the second row", "p6-11", Due.lasts(x));
        x.army('p', 1, 1);
        Due.same("26: by capturing, each kind that a pawn can be", "p5-11q p5-11r p5-11b p5-11n p5-11p p5-11pe p6-11 "
            + "p7-11q p7-11r p7-11b p7-11n p7-11p p7-11pe", Due.lasts(x));
        Bench y = Due.bench(5, 5, 1, "Pb4");
        onlyKingAndPawns(y, 1);
        y.army('p', 1, 0);
        Due.same("26: by one cell and two", "p6-16 p11-16", Due.lasts(y));
        y.man('n', 1, 11);
        y.army('n', 1, 1);
        Due.same("26: not through a man", "", Due.lasts(y));
        Bench low = Due.bench(5, 5, 1, "Pb2");
        Due.same("26: never from the first row", "", Due.lasts(low));
        Bench q = Due.bench(4, 4, 1, "Qa4");
        onlyKingAndPawns(q, 1);
        q.army('p', 1, 0);
        Due.same("26: the queen's pawn behind it, from the same cell",
            "q0-12 q3-12 q4-12 q6-12 q8-12 p8-12 q9-12 q13-12 q14-12 q15-12", Due.lasts(q));
        q.army('p', 0, 0);
        Due.same("26: no pawn beyond the army", "q0-12 q3-12 q4-12 q6-12 q8-12 q9-12 q13-12 q14-12 q15-12", Due.lasts(q));
        Bench b = Due.bench(3, 3, 0, "na1");
        onlyKingAndPawns(b, 0);
        b.army('p', 0, 0);
        Due.same("26: black's promoted knight", "p3-0 n5-0 n7-0", Due.lasts(b));
        b.army('b', 0, 1);
        Due.same("26: also by capturing", "p3-0 p4-0b n5-0 n5-0b n7-0 n7-0b", Due.lasts(b));
        Bench k = Due.bench(3, 3, 0, "ka1");
        onlyKingAndPawns(k, 0);
        k.army('p', 0, 0);
        Due.same("26: a king is no promoted pawn", "k1-0 k3-0 k4-0", Due.lasts(k));
    }

    private static void lastsEnPassant() {
        Bench x = Due.bench(6, 6, 1, "Pb4");
        onlyKingAndPawns(x, 1);
        Due.same("26: en passant behind all captures", "p7-19 p12-19q p12-19r p12-19b p12-19n p12-19p p12-19pe p13-19 "
            + "p14-19q p14-19r p14-19b p14-19n p14-19p p14-19pe", Due.lasts(x));
        x.man('n', 0, 25);
        Due.same("26: not if the second row's cell is taken", false, Due.lasts(x).contains("e"));
        x.lift(25);
        x.man('n', 0, 13);
        Due.same("26: nor if the pawn's cell is taken now", false, Due.lasts(x).contains("e"));
        Due.same("26: nor on another row", false, Due.lasts(Due.bench(6, 6, 1, "Pb5")).contains("e"));
        Bench b = Due.bench(5, 5, 0, "pb2 Ke5");
        Due.same("26: nor black's", false, Due.lasts(b).contains("e"));
        Bench c = Due.bench(5, 5, 0, "pb3");
        Due.same("26: black's on five rows", true, Due.lasts(c).contains("p15-11pe ") && Due.lasts(c).endsWith("p17-11pe"));
        Bench d = Due.bench(4, 4, 0, "pb2");
        Due.same("26: none on four rows", false, Due.lasts(d).contains("e"));
        Bench f = Due.bench(5, 5, 0, "pb3");
        f.army('p', 0, 0);
        Due.same("26: no pawn to be captured", false, Due.lasts(f).contains("e"));
    }

    private static void lastsUnderConditions() {
        Bench x = Due.bench(3, 3, 1, "Na1 kb2");
        Due.same("26: without conditions", true, Due.lasts(x).contains("n5-0n"));
        x.condition('p', true);
        Due.same("26: by p nothing is captured by a man alone", "n5-0 n7-0", Due.lasts(x));
        x.condition('p', false);
        x.condition('m', true);
        Due.same("26: by m no like man", "n5-0 n5-0q n5-0r n5-0b n7-0 n7-0q n7-0r n7-0b", Due.lasts(x));
        Bench g = Due.bench(3, 3, 1, "Ka1");
        g.condition('g', true);
        Due.same("26: by g no step in a block", "", Due.lasts(g));
    }

    private static void lastAt() {
        Bench x = Due.bench(5, 5, 0, "pb3");
        int many = x.lasts();
        int at = many - 1;
        Due.same("27: f", 17, x.lastAt(at, 'f'));
        Due.same("27: t", 11, x.lastAt(at, 't'));
        Due.same("27: k", (int) 'p', x.lastAt(at, 'k'));
        Due.same("27: c", (int) 'p', x.lastAt(at, 'c'));
        Due.same("27: e", 1, x.lastAt(at, 'e'));
        Due.same("27: e of a capture", 0, x.lastAt(at - 1, 'e'));
        Due.same("27: c of it", (int) 'p', x.lastAt(at - 1, 'c'));
        Bench w = Due.bench(3, 3, 1, "Nb3");
        Due.same("27: small letters for white", (int) 'n', w.lastAt(0, 'k'));
        Due.same("27: none captured", 0, w.lastAt(0, 'c'));
        Due.same("27: a queen captured", (int) 'q', w.lastAt(1, 'c'));
        Due.thrown("27: index behind the last", Due.MISSING, x, () -> x.lastAt(many, 'f'));
        Due.thrown("27: index -1", Due.MISSING, x, () -> x.lastAt(-1, 'f'));
        Due.thrown("27: index -1, ahead of no such thing", Due.MISSING, x, () -> x.lastAt(-1, 'x'));
        Due.thrown("27: no such thing", Due.ARGUMENT, x, () -> x.lastAt(0, 'x'));
        Due.thrown("27: nor p", Due.ARGUMENT, x, () -> x.lastAt(0, 'p'));
    }

    private static void prove() {
        Bench x = proved();
        Due.same("26: one last move", "p6-16", Due.lasts(x));
        Due.same("9: not yet", false, Due.can(x, 17, 11));
        Due.same("28: proved", 11, x.prove());
        Due.same("28: once more", 11, x.prove());
        Due.same("9: now", true, Due.can(x, 17, 11));
        Due.same("18: it captures", true, (Due.list(x) + " ").contains(" c4xb3 "));
        Due.same("11: the pawn", 'P', Due.go(x, 17, 11));
        Due.same("11: gone", '.', x.at(16));
        x.undo();
        Due.go(x, 15, 10);
        x.undo();
        Due.same("9: behind undo, too", true, Due.can(x, 17, 11));
        Bench w = Due.bench(5, 5, 0, "pb2 Pc2 Ka2");
        onlyKingAndPawns(w, 0);
        Due.same("28: black's pawn", 11, w.prove());
        Due.same("9: white captures it", true, Due.can(w, 7, 11));
    }

    private static void notProved() {
        Bench x = Due.bench(5, 5, 1, "Pb4 pc4 ka4");
        Due.thrown("28: captures could have been", Due.MISSING, x, () -> x.prove());
        Bench y = proved();
        y.man('n', 0, 24);
        Due.thrown("28: another man could have moved", Due.MISSING, y, () -> y.prove());
        Due.same("28: nothing is changed", false, Due.can(y, 17, 11));
        Bench z = proved();
        z.turn(0);
        Due.thrown("28: the other side moves", Due.MISSING, z, () -> z.prove());
        Bench none = new Bench();
        Due.thrown("28: no last move", Due.MISSING, none, () -> none.prove());
        Bench one = Due.bench(5, 5, 1, "Pb3 pc3");
        onlyKingAndPawns(one, 1);
        Due.same("26: one step alone", "p6-11", Due.lasts(one));
        Due.thrown("28: by one cell", Due.MISSING, one, () -> one.prove());
    }

    private static void array() {
        Bench x = Due.bench(4, 4, 1, "Ka1 kd4 Nb2");
        Due.same("29: how many men", 3, x.array());
        Due.same("30: it is the position", 1, x.games(0));
        x.turn(0);
        Due.same("30: another side to move", 0, x.games(0));
        Due.same("30: not in one half move", 0, x.games(1));
        Due.go(x, 0, 1);
        Due.same("30: not from there", 0, x.games(1));
        Due.same("29: kept again", 3, x.array());
        Due.same("30: anew", 1, x.games(0));
        x.lift(5);
        Due.same("30: another position", 0, x.games(0));
        Due.same("29: one less", 2, x.array());
        Due.same("29: none", 0, new Bench().array());
    }

    private static void games() {
        Bench x = Due.bench(3, 3, 0, "Ka1");
        Due.thrown("30: no array", Due.STATE, x, () -> x.games(0));
        Due.thrown("30: -1, ahead of no array", Due.ARGUMENT, x, () -> x.games(-1));
        Due.thrown("30: 5, ahead of no array", Due.ARGUMENT, x, () -> x.games(5));
        x.array();
        Due.thrown("30: 5", Due.ARGUMENT, x, () -> x.games(5));
        Due.thrown("30: -1", Due.ARGUMENT, x, () -> x.games(-1));
        Due.same("30: black cannot move", 0, x.games(2));
        Bench y = Due.bench(6, 6, 0, "Ra1 rf6");
        y.array();
        Due.same("30: there and back", 98, y.games(4));
        Due.same("30: not in two", 0, y.games(2));
        Due.same("30: nor in three", 0, y.games(3));
        Due.go(y, 0, 6);
        Due.same("30: one move", 1, y.games(1));
        Due.go(y, 35, 34);
        Due.same("30: two moves", 1, y.games(2));
        Due.go(y, 6, 7);
        Due.same("30: three moves, in two ways", 2, y.games(3));
        Due.go(y, 34, 28);
        Due.same("30: four moves, in two ways each", 4, y.games(4));
        y.condition('g', true);
        Due.same("30: not by g", 0, y.games(4));
        Bench z = Due.bench(5, 5, 0, "Ra1 na5");
        z.array();
        Due.go(z, 0, 20);
        Due.same("30: by capturing", 1, z.games(1));
        Bench p = Due.bench(5, 5, 0, "Pb4 Nd5 ke1");
        p.array();
        p.lift(16);
        p.man('b', 0, 21);
        p.turn(1);
        Due.same("30: by promotion", 1, p.games(1));
    }

    private static void gamesEnPassant() {
        Bench x = Due.bench(5, 5, 0, "Pb2 pc4 Na1");
        x.array();
        Due.go(x, 6, 16);
        Due.go(x, 17, 11);
        Due.same("30: en passant, or by one cell", 2, x.games(2));
        Due.go(x, 0, 7);
        Due.same("30: and on", 2, x.games(3));
        Bench y = Due.bench(5, 5, 0, "Pb2 pc4 Na1");
        Due.go(y, 6, 16);
        y.array();
        Due.go(y, 17, 11);
        Due.same("30: nothing in the array is to be captured en passant", 0, y.games(1));
    }
}
