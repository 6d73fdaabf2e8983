/** Sentences under History and Games, and of the promises 25 to 30. */
final class EdgesOfHistory {
    private EdgesOfHistory() {
    }

    static void run() {
        Page.open("History");
        armies();
        promotedPawns();
        neverPromoted();
        possible();
        couldHaveMade();
        captured();
        passing();
        manyMen();
        order();
        proved();
        Page.open("Games");
        arrays();
        games();
        promiseIsPossible();
        promiseLasts();
        promiseLastAt();
        promiseProve();
        promiseArray();
        promiseGames();
    }

    /** A side's men cannot have been captured then, but for pawns, if so many do not stand there. */
    static void onlyPawns(Bench x, int side, int pawns) {
        for (char kind : "qrbn".toCharArray()) {
            x.army(kind, side, 0);
        }
        x.army('p', side, pawns);
    }

    /** Black can capture by c4xb3 en passant, for it is proved; with a knight on e5 that can be lifted, or without. */
    static Bench proved(int knights) {
        Bench x = Due.bench(5, 5, 1, knights == 0 ? "Pb4 pc4 ka4" : "Pb4 pc4 ka4 ne5");
        onlyPawns(x, 1, 1);
        x.army('n', 1, knights);
        x.prove();
        return x;
    }

    /** White can capture by c2xb3 en passant, for it is proved. */
    static Bench provedForWhite() {
        Bench x = Due.bench(5, 5, 0, "pb2 Pc2 Ka2");
        onlyPawns(x, 0, 1);
        x.prove();
        return x;
    }

    private static void armies() {
        Page.says("Each side has an army: of each kind how many men it had, at first one king, one queen, two rooks, bishops and knights, six pawns,");
        Page.says("and none of the others;");
        String kinds = "kqrbnpigc";
        for (int side = 0; side < 2; side++) {
            Bench x = new Bench();
            for (int i = 0; i < 9; i++) {
                Due.same("of " + kinds.charAt(i), "112226000".charAt(i) - '0', x.army(kinds.charAt(i), side, 0));
            }
            Due.same("all at once", true, laid(side, "kqrrbbnnpp").isPossible());
            Due.same("six pawns", true, laid(side, "pppppp").isPossible());
            Due.same("seven", false, laid(side, "ppppppp").isPossible());
            for (char kind : "igc".toCharArray()) {
                Due.same("one " + kind, false, laid(side, "" + kind).isPossible());
            }
        }
    }

    /** Men of a side alone, pawns on the rows for them, on 6 by 6. */
    private static Bench laid(int side, String kinds) {
        Bench x = Edges.empty(6, 6);
        int cell = 6;
        for (char kind : kinds.toCharArray()) {
            x.man(kind, side, cell++);
        }
        return x;
    }

    private static void promotedPawns() {
        Page.says("men beyond the army of a kind that is no pawn are promoted pawns, if pawns lack as many;");
        for (int side = 0; side < 2; side++) {
            for (char kind : "qrbn".toCharArray()) {
                int army = kind == 'q' ? 1 : 2;
                for (int beyond = 0; beyond <= 6; beyond++) {
                    String men = ("" + kind).repeat(army + beyond);
                    Due.same(beyond + " of " + kind + " too many, as many pawns lacking", true, laid(side, men + "p".repeat(6 - beyond)).isPossible());
                    Due.same(beyond + " of " + kind + " too many, one pawn too many", false, laid(side, men + "p".repeat(7 - beyond)).isPossible());
                }
                Bench none = laid(side, "" + kind);
                none.army(kind, side, 0);
                Due.same("none in the army", true, none.isPossible());
                none.army('p', side, 0);
                Due.same("nor pawns", false, none.isPossible());
                none.army(kind, side, 1);
                Due.same("one in the army", true, none.isPossible());
            }
            Due.same("of two kinds", true, laid(side, "qqrrrpppp").isPossible());
            Due.same("of two kinds, one pawn too many", false, laid(side, "qqrrrppppp").isPossible());
            Due.same("less of one kind do not help another", false, laid(side, "rrrpppppp").isPossible());
            Bench more = laid(side, "ppppppp");
            more.army('p', side, 7);
            Due.same("as many pawns as the army has", true, more.isPossible());
            more.army('p', 1 - side, 9);
            more.army('p', side, 6);
            Due.same("not by the other army", false, more.isPossible());
        }
    }

    private static void neverPromoted() {
        Page.says("kinds other than queen, rook, bishop and knight cannot be promoted.");
        for (int side = 0; side < 2; side++) {
            for (char kind : "igck".toCharArray()) {
                Bench x = laid(side, "" + kind);
                x.army(kind, side, 0);
                x.army('p', side, 9);
                Due.same("a " + kind + " that the army has not", false, x.isPossible());
                x.army(kind, side, 1);
                Due.same("a " + kind + " that it has", true, x.isPossible());
                x.army(kind, side, 9);
                Due.same("one of nine", true, x.isPossible());
            }
            Bench two = laid(side, "ii");
            two.army('i', side, 1);
            Due.same("one beyond the army", false, two.isPossible());
            two.army('i', side, 2);
            Due.same("none beyond it", true, two.isPossible());
        }
    }

    private static void possible() {
        Page.says("A position is possible if this holds for both sides, kings included, of which a side may have none,");
        Due.same("no men", true, new Bench().isPossible());
        Due.same("kings of both sides", true, Due.bench(5, 5, 0, "Ka1 ke5").isPossible());
        Due.same("one king", true, Due.bench(5, 5, 0, "Ka1").isPossible());
        Due.same("no king", true, Due.bench(5, 5, 0, "Qa1 qe5").isPossible());
        for (int side = 0; side < 2; side++) {
            Bench x = Due.bench(5, 5, 0, "Ka1 ke5");
            x.army('k', side, 0);
            Due.same("a king that the army has not", false, x.isPossible());
            Due.same("a nightrider of " + side, false, Due.bench(5, 5, 0, side == 0 ? "Ia1 qe5" : "Qa1 ie5").isPossible());
        }
        Page.says("and the king of the side that does not move is not in check.");
        Due.same("white's, black to move", false, Due.bench(5, 5, 1, "Ka1 ra5").isPossible());
        Due.same("white's, white to move", true, Due.bench(5, 5, 0, "Ka1 ra5").isPossible());
        Due.same("black's, white to move", false, Due.bench(5, 5, 0, "ka1 Ra5").isPossible());
        Due.same("black's, black to move", true, Due.bench(5, 5, 1, "ka1 Ra5").isPossible());
        Due.same("kings side by side", false, Due.bench(5, 5, 1, "ka1 Kb2").isPossible());
        Due.same("by m no check", true, Edges.with("m", 5, 5, 1, "Ka1 ra5 Re5").isPossible());
    }

    private static void last(String what, String due, int columns, int rows, int side, String men, String conditions) {
        Bench x = Edges.with(conditions, columns, rows, side, men);
        onlyPawns(x, 0, 0);
        onlyPawns(x, 1, 0);
        for (char man : men.replaceAll("..( |$)", "").toCharArray()) {
            char kind = Character.toLowerCase(man);
            int whose = Character.isUpperCase(man) ? 0 : 1;
            x.army(kind, whose, x.army(kind, whose, 0) + 1);
        }
        Due.same(what, due, Due.lasts(x));
    }

    private static void couldHaveMade() {
        Page.says("A last move is one that the side that does not move could have made,");
        last("none of the side that moves", "", 3, 3, 0, "Na1", "");
        last("a knight's", "n5-0 n7-0", 3, 3, 1, "Na1", "");
        last("black's", "n5-0 n7-0", 3, 3, 0, "na1", "");
        last("of each man", "k1-0 k3-0 k4-0 n1-8 n3-8", 3, 3, 1, "Ka1 Nc3", "");
        Page.says("from a possible position in which it had the move,");
        last("not from where the other king was in check", "n9-0", 4, 4, 0, "na1 Ka3", "");
        last("not from where the kings were side by side", "k0-1 k2-1", 3, 3, 0, "kb1 Kb3", "");
        last("none that leaves the check of a rook on the cell 0", "r1-0 r2-0 r3-0 r4-0", 5, 5, 1, "Ra1 Pc4 Ne4 ka5", "");
        last("from where its own king was in check", "k1-0 k4-0 k5-0", 4, 4, 0, "ka1 Rb4", "");
        Page.says("by the rules, to this one:");
        last("none, if its own king is in check now", "", 3, 3, 0, "ka1 Ra3", "");
        last("not through a man", "r1-2", 3, 3, 1, "Rc1 na1 nc2", "");
        last("a grasshopper's over a man", "g0-2", 3, 3, 1, "Gc1 nb1", "");
        last("a pawn's, by one cell and by two", "p4-10 p7-10", 3, 5, 1, "Pb4", "");
        Bench four = Due.bench(3, 4, 1, "Qb4");
        onlyPawns(four, 0, 1);
        Due.same("a promoted pawn's", true, Due.lasts(four).contains("p7-10"));
        Due.same("not by two cells on four rows", false, Due.lasts(four).contains("p4-10"));
        last("a pawn's, not by two through a man", "", 3, 5, 1, "Pb4 nb3", "");
        last("a pawn's, never from the first row", "", 3, 5, 1, "Pb2", "");
        last("by g, not within a block", "", 3, 3, 1, "Ka1", "g");
        last("by m, not by a man that was reached", "r1-0 r3-0", 3, 3, 1, "Ra1 rc3", "m");
        Page.says("by a man that stands here,");
        last("no man, no move", "", 5, 5, 0, "", "");
        for (String men : new String[] {"Nb2", "Ka1 Rd4", "Gc3 nc2 Na4", "Qd1 kb3"}) {
            Bench x = Due.bench(4, 4, 1, men);
            for (int k = 0; k < x.lasts(); k++) {
                Due.same("a man stands where it went", true, Character.isUpperCase(x.at(x.lastAt(k, 't'))));
                Due.same("and none from where", '.', x.at(x.lastAt(k, 'f')));
            }
        }
    }

    private static void captured() {
        Page.says("captured men of the other side being of any kind but a king;");
        Bench x = Due.bench(4, 4, 1, "Kb2");
        onlyPawns(x, 1, 0);
        Due.same("a king that the army has is not captured", "k0-5 k1-5 k2-5 k4-5 k6-5 k8-5 k9-5 k10-5", Due.lasts(x));
        String each = "k0-5 k0-5q k0-5r k0-5b k0-5n k0-5i k0-5g k0-5c k0-5p k1-5 ";
        for (char kind : "qrbnigcp".toCharArray()) {
            x.army(kind, 1, 1);
        }
        Due.same("each other kind", each, Due.lasts(x).substring(0, each.length()));
        x.army('g', 1, 0);
        Due.same("none that the army has not", false, Due.lasts(x).contains("g"));
        x.army('q', 1, 0);
        Due.same("but a promoted pawn", true, Due.lasts(x).contains("5q"));
        x.army('p', 1, 0);
        Due.same("none without pawns", false, Due.lasts(x).contains("5q"));
        Bench edge = Due.bench(4, 4, 1, "Kb1");
        Due.same("no pawn on the first row", false, Due.lasts(edge).contains("p"));
        Due.same("but a knight", true, Due.lasts(edge).contains("1n"));
        Bench alone = Edges.with("p", 3, 3, 1, "Na1 kb2");
        Due.same("by p, none by a man that was alone", "n5-0 n7-0", Due.lasts(alone));
        Bench reached = Edges.with("m", 3, 3, 1, "Na1 kb2");
        Due.same("by m, none by a man that was reached", "n5-0 n5-0q n5-0r n5-0b n7-0 n7-0q n7-0r n7-0b", Due.lasts(reached));
        Bench check = Due.bench(3, 3, 1, "Ka1 rc3");
        check.army('p', 1, 0);
        Due.same("by a king, too", true, Due.lasts(check).contains("k1-0q"));
    }

    private static void passing() {
        Page.says("en passant, too, if the pawn captured stood two cells from the second row of its side,");
        for (int columns = 3; columns <= 6; columns++) {
            for (int rows = 3; rows <= 6; rows++) {
                for (int i = 2 * columns; i < 2 * columns * (rows - 1); i++) {
                    int side = i & 1;
                    int cell = i >> 1;
                    Bench x = Edges.empty(columns, rows);
                    x.man('p', side, cell);
                    x.turn(1 - side);
                    boolean due = rows >= 5 && cell / columns == (side == 0 ? rows - 3 : 2);
                    Due.same("a pawn of " + side + " on " + cell + " of " + columns + " by " + rows, due, passings(x) > 0);
                    int both = cell % columns == 0 || cell % columns == columns - 1 ? 1 : 2;
                    Due.same("from both sides, where there are two", due ? both : 0, passings(x));
                }
            }
        }
        Page.says("both cells behind it being free then.");
        for (int side = 0; side < 2; side++) {
            int up = side == 0 ? 6 : -6;
            int to = side == 0 ? 20 : 14;
            for (String taken : new String[] {"home", "over", "stood", "far"}) {
                Bench x = Edges.empty(6, 6);
                int cell = taken.equals("home") ? to + up : taken.equals("stood") ? to - up : taken.equals("far") ? to + 2 * up : to;
                x.man('p', side, to);
                if (cell != to) {
                    x.man('n', side, cell);
                }
                x.turn(1 - side);
                Due.same("with a man on the cell " + taken, taken.equals("over") || taken.equals("far") ? 2 : 0, passings(x));
            }
        }
        Bench none = Due.bench(5, 5, 1, "Pb3");
        none.army('p', 1, 0);
        Due.same("no pawn that the army has not", 0, passings(none));
        Bench m = Edges.with("p", 5, 5, 1, "Pb3");
        Due.same("by p, not by a pawn alone", 0, passings(m));
    }

    /** How many last moves are en passant. */
    private static int passings(Bench x) {
        int many = 0;
        for (int i = 0; i < x.lasts(); i++) {
            many += x.lastAt(i, 'e');
        }
        return many;
    }

    private static void manyMen() {
        Page.says("More than 10 men may be on the board then.");
        Bench x = Due.bench(6, 6, 1, "Pb4 Nf1 Bf2 qf6 rf5 rf4 be6 be5 nd6 nd5");
        Due.same("ten men now", 10, x.array());
        String all = " " + Due.lasts(x) + " ";
        for (String one : new String[] {"p12-19", "p12-19q", "p12-19n", "p12-19p", "p12-19pe", "p14-19pe", "n9-5q", "n9-5n"}) {
            boolean isCapture = one.length() > 6 || one.startsWith("n");
            Due.same("by an eleventh, " + one, isCapture, all.contains(" " + one + " "));
        }
    }

    private static void order() {
        Page.says("Last moves are listed by the cells to which they went, then from which,");
        Bench two = Due.bench(4, 4, 0, "rd1 ka4");
        onlyPawns(two, 0, 0);
        onlyPawns(two, 1, 0);
        two.army('r', 1, 1);
        Due.same("two men", "r0-3 r1-3 r2-3 r7-3 r11-3 r15-3 k8-12 k9-12 k13-12", Due.lasts(two));
        Page.says("then by the kind that moved, pawns last,");
        two.army('p', 1, 1);
        Due.same("a rook, perhaps promoted", "r0-3 r1-3 r2-3 r7-3 p7-3 r11-3 r15-3 k8-12 k9-12 k13-12", Due.lasts(two));
        Page.says("then by captures: none, then q, r, b, n, i, g, c, p, and en passant behind all.");
        Bench x = Due.bench(6, 6, 1, "Pb4 Qa6");
        for (char kind : "qrbnigc".toCharArray()) {
            x.army(kind, 1, 1);
        }
        String ends = "p12-19q p12-19r p12-19b p12-19n p12-19i p12-19g p12-19c p12-19p p12-19pe p13-19 p14-19q";
        Due.same("all captures", true, Due.lasts(x).contains(ends));
        Due.same("none ahead of them", true, Due.lasts(x).startsWith("p7-19 p12-19q"));
        for (String men : new String[] {"Pb4 Qa6", "Ka1 Rb6 Nc6 Bd6 Pe4 nf1", "Qa6 Qf6 ka1 Pc4"}) {
            for (int side = 0; side < 2; side++) {
                Bench y = Due.bench(6, 6, side, side == 1 ? men : men.toLowerCase());
                int before = -1;
                for (int i = 0; i < y.lasts(); i++) {
                    int caught = ".qrbnigcp".indexOf(y.lastAt(i, 'c') == 0 ? '.' : (char) y.lastAt(i, 'c')) + y.lastAt(i, 'e');
                    int place = ((y.lastAt(i, 't') * 36 + y.lastAt(i, 'f')) * 2 + (y.lastAt(i, 'k') == 'p' ? 1 : 0)) * 10 + caught;
                    Due.same("last move " + i + " stands behind the one ahead of it", true, place > before);
                    before = place;
                }
            }
        }
    }

    private static void proved() {
        Page.says("En passant is proved if there are last moves,");
        Bench none = Due.bench(5, 5, 1, "pc4 ka4");
        Due.thrown("no last move", Due.MISSING, none, () -> none.prove());
        Bench check = Due.bench(5, 5, 1, "Pb4 pc4 ka4 Ke1 re5");
        onlyPawns(check, 1, 1);
        check.army('r', 1, 1);
        Due.same("none, for white is in check", 0, check.lasts());
        Due.thrown("not proved then", Due.MISSING, check, () -> check.prove());
        Page.says("and all of them are steps of the same pawn by two cells.");
        everyProof();
        refused("a step by one cell", "p6-11", "Pb3 pc3");
        refused("by one cell or two", "p6-16 p11-16", "Pb4 pc4");
        refused("two pawns", "p6-16 p8-18", "Pb4 Pd4 kc4 pa4");
        refused("another man, too", "p6-16 n8-19", "Pb4 ka4 Ne4");
        refused("another man alone", "g0-10", "Ga3 na2");
        Bench capture = Due.bench(5, 5, 1, "Pb4 pc4 ka4");
        onlyPawns(capture, 1, 2);
        Due.same("a capture, too", "p6-16 p10-16q p10-16r p10-16b p10-16n p10-16p p12-16q p12-16r p12-16b p12-16n p12-16p", Due.lasts(capture));
        Due.thrown("not proved then", Due.MISSING, capture, () -> capture.prove());
    }

    /** The last moves are these, and en passant is not proved by them. */
    private static void refused(String what, String due, String men) {
        Bench x = Due.bench(5, 5, 1, men);
        onlyPawns(x, 1, men.contains("p") ? 1 : 0);
        x.army('n', 1, men.contains("n") ? 1 : 0);
        x.army('g', 0, 1);
        Due.same(what, due, Due.lasts(x));
        Due.thrown(what, Due.MISSING, x, () -> x.prove());
    }

    private static void everyProof() {
        for (int columns = 3; columns <= 6; columns++) {
            for (int rows = 5; rows <= 6; rows++) {
                for (int i = 0; i < 4 * columns - 8; i++) {
                    int side = i & 1;
                    int aside = (i & 2) - 1;
                    int up = side == 0 ? columns : -columns;
                    int to = (side == 0 ? 3 : rows - 4) * columns + 1 + (i >> 2);
                    Bench x = Edges.empty(columns, rows);
                    x.man('p', side, to);
                    x.man('k', 1 - side, to - aside);
                    x.man('p', 1 - side, to + aside);
                    onlyPawns(x, 1 - side, 1);
                    x.turn(1 - side);
                    Due.same("not yet", false, Due.can(x, to + aside, to - up));
                    Due.same("the cell over which it went", to - up, x.prove());
                    Due.same("it can be captured", true, Due.can(x, to + aside, to - up));
                    Due.same("it is", 'p', Character.toLowerCase(Due.go(x, to + aside, to - up)));
                    Due.same("and is gone", '.', x.at(to));
                }
            }
        }
    }

    private static void arrays() {
        Page.says("An array is a position that is kept, with the side that moves in it,");
        Bench x = Due.bench(4, 4, 1, "Ka1 kd4");
        x.array();
        Due.same("it is the array", 1, x.games(0));
        x.turn(0);
        Due.same("not with another side", 0, x.games(0));
        x.turn(1);
        x.man('n', 0, 3);
        Due.same("not with another man", 0, x.games(0));
        x.lift(3);
        Due.same("it is again", 1, x.games(0));
        Due.go(x, 15, 10);
        Due.same("the array stays", 1, x.games(1));
        x.array();
        Due.same("another array", 0, x.games(1));
        Due.same("this one", 1, x.games(0));
        Page.says("nothing in it to be captured en passant.");
        for (int side = 0; side < 2; side++) {
            Bench y = Due.bench(5, 5, side, side == 0 ? "Pb2 pc4" : "pb4 Pc2");
            Due.go(y, side == 0 ? 6 : 16, side == 0 ? 16 : 6);
            y.array();
            Due.go(y, side == 0 ? 17 : 7, 11);
            Due.same("not by a move just made", 0, y.games(1));
            Bench z = side == 0 ? EdgesOfHistory.proved(0) : provedForWhite();
            z.array();
            Due.go(z, side == 0 ? 17 : 7, 11);
            Due.same("nor by proof", 0, z.games(1));
        }
        Bench within = Due.bench(5, 5, 0, "Pb2 pc4");
        within.array();
        Due.go(within, 6, 16);
        Due.go(within, 17, 11);
        Due.same("but in a game from it, and by one cell and a capture", 2, within.games(2));
    }

    /** Games counted by the moves of the face; the checksum stands for the men. */
    private static int byHand(Bench from, int halves, long men) {
        if (halves == 0) {
            return from.checksum() == men ? 1 : 0;
        }
        int many = 0;
        for (int i = 0; i < from.moves(); i++) {
            many += byHand(ByHand.after(from, i), halves - 1, men);
        }
        return many;
    }

    private static void games() {
        Page.says("A game from it in n half moves, 0 to 4, is a row of n lawful moves from it to the position as it is, the same men on the same cells, and the same side to move.");
        game(3, 5, "Pb2 pc4", "", 4, 10, 11, 7);
        game(3, 5, "Pa2 pb4 Rc1", "", 3, 9, 10, 6, 2, 5);
        game(3, 5, "Pa2 pb4 Rc4", "", 3, 9, 10, 6, 11, 9);
        game(3, 5, "pb4 Pa2 Rc1 ra5", "", 2, 5, 10, 4, 3, 7, 12, 13);
        game(3, 4, "Kc4 pb2 ka4 Na2", "", 3, 2, 4, 1, 11, 8);
        game(3, 4, "Kc4 pb2 ka4 Nc1", "", 2, 3, 4, 1);
        game(4, 4, "Ka1 kd4", "", 0, 1, 15, 14, 1, 0, 14, 15);
        game(4, 4, "Ka1 kd4", "", 0, 1, 15, 10, 1, 0, 10, 15);
        game(3, 3, "Ka1 kc3 Pb2", "", 4, 7, 8, 7, 0, 1);
        game(3, 4, "Ka1 Pb3 ka4 nc4", "", 7, 11, 9, 6);
        game(4, 4, "Na1 nd4", "g", 0, 6, 15, 9, 6, 0, 9, 15);
        game(4, 4, "Ra1 Rb1 rd4", "p", 0, 8, 15, 3, 1, 2, 3, 7);
        game(4, 4, "Ra1 Rb2 rd4 bd1", "m", 5, 6, 15, 14, 0, 1, 3, 6);
        for (int i = 0; i < 8; i++) {
            Bench x = Due.bench(3, 4, i & 1, "Pb3 pc2");
            x.array();
            x.make(i >> 1);
            Due.same("promoted to " + x.at((i & 1) == 0 ? 10 : 2), 1, x.games(1));
        }
    }

    /** From men on a board, by some moves; behind each, games of all lengths are counted, with the other side to move, too. */
    private static void game(int columns, int rows, String men, String conditions, int... made) {
        Bench x = Edges.with(conditions, columns, rows, 0, men);
        x.array();
        Bench from = x.twin();
        for (int n = 0; n <= made.length / 2; n++) {
            for (int halves = 0; halves <= (n == 4 ? 4 : 3); halves++) {
                int due = byHand(from, halves, x.checksum());
                Bench y = x.twin();
                y.turn(halves % 2);
                Due.same(halves + " half moves from " + men + " behind " + n, due, y.games(halves));
                y.turn(1 - halves % 2);
                Due.same(halves + " half moves, the other side moving", 0, y.games(halves));
            }
            if (2 * n + 1 < made.length) {
                Due.go(x, made[2 * n], made[2 * n + 1]);
            }
        }
    }

    private static void promiseIsPossible() {
        Page.open("Promise 25");
        Page.says("Tells whether the position is possible.");
        Page.says("Returns true if so.");
        Due.same("so", true, Due.bench(5, 5, 1, "Ka1 ke5 Qc3 Pb2").isPossible());
        Due.same("not so", false, Due.bench(5, 5, 0, "Ka1 ke5 Qc3 Pb2").isPossible());
        Due.same("nor so", false, Due.bench(5, 5, 1, "Ka1 ke5 Gc3 Pb2").isPossible());
    }

    private static void promiseLasts() {
        Page.open("Promise 26");
        Page.says("Returns how many last moves there are.");
        Page.says("Returns their number.");
        Due.same("none", 0, new Bench().lasts());
        Due.same("a knight's two, and four captures each", 10, withoutBlackPawns("Nb3").lasts());
        Due.same("a king's three, and four captures each", 15, withoutBlackPawns("Ka1").lasts());
        Due.same("the other side's", 0, Due.bench(3, 3, 0, "Nb3").lasts());
    }

    private static Bench withoutBlackPawns(String men) {
        Bench x = Due.bench(3, 3, 1, men);
        x.army('p', 0, 0);
        x.army('p', 1, 0);
        return x;
    }

    private static void promiseLastAt() {
        Page.open("Promise 27");
        Page.says("Returns something of a last move.");
        Page.says("- `index`: the index, from 0");
        Page.says("- `what`: 'f' the cell from which, 't' to which, 'k' the letter of the man ahead of the move, 'c' that of the man captured, both as numbers, small letters, 0 for none, 'e' whether it was en passant, 1 or 0");
        Page.says("Returns the number.");
        Bench x = Due.bench(5, 5, 1, "Pb3");
        onlyPawns(x, 1, 1);
        String[] due = {"5 11 p q 0", "5 11 p r 0", "5 11 p b 0", "5 11 p n 0", "5 11 p p 0", "5 11 p p 1", "6 11 p 0 0",
            "7 11 p q 0", "7 11 p r 0", "7 11 p b 0", "7 11 p n 0", "7 11 p p 0", "7 11 p p 1"};
        Due.same("how many", due.length, x.lasts());
        for (int i = 0; i < due.length; i++) {
            int caught = x.lastAt(i, 'c');
            Due.same("last move " + i, due[i], x.lastAt(i, 'f') + " " + x.lastAt(i, 't') + " " + (char) x.lastAt(i, 'k') + " "
                + (caught == 0 ? "0" : (char) caught) + " " + x.lastAt(i, 'e'));
        }
        Bench queen = Due.bench(4, 4, 1, "Qa4");
        onlyPawns(queen, 1, 0);
        queen.army('q', 0, 0);
        queen.army('p', 0, 1);
        Due.same("the man ahead of the move", "q0-12 q3-12 q4-12 q6-12 q8-12 p8-12 q9-12 q13-12 q14-12 q15-12", Due.lasts(queen));
        Due.same("a small letter for black's, too", (int) 'n', Due.bench(3, 3, 0, "nb3").lastAt(0, 'k'));
        Page.says("Throws `NoSuchElementException` if there is no such last move");
        for (int index : Edges.badIndexes(13)) {
            Due.thrown("index " + index, Due.MISSING, x, () -> x.lastAt(index, 'f'));
            Due.thrown("ahead of no such thing", Due.MISSING, x, () -> x.lastAt(index, 'x'));
        }
        Bench none = new Bench();
        Due.thrown("no last move", Due.MISSING, none, () -> none.lastAt(0, 'f'));
        Page.says("Throws `IllegalArgumentException` if there is no such thing");
        for (char what : new char[] {'x', 'p', 'F', '.', (char) 0, (char) ('f' + 256), (char) 65535}) {
            Due.thrown("no such thing as " + (int) what, Due.ARGUMENT, x, () -> x.lastAt(0, what));
            Due.thrown("no such thing as " + (int) what, Due.ARGUMENT, x, () -> x.lastAt(12, what));
        }
    }

    private static void promiseProve() {
        Page.open("Promise 28");
        Page.says("Proves en passant: the pawn can be captured by the next move then.");
        Bench x = proved(0);
        Due.same("by the next move", "Ka4-a3 Ka4-b3 Ka4xb4 Ka4-b5 c4-c2 c4xb3 c4-c3", Due.list(x));
        Due.go(x, 15, 10);
        x.undo();
        Due.same("and again, undone", true, Due.can(x, 17, 11));
        Bench later = Due.bench(5, 5, 1, "Pb4 pc4 ka4 Pe2");
        onlyPawns(later, 1, 1);
        later.prove();
        Due.go(later, 15, 10);
        Due.go(later, 9, 14);
        Due.same("not by a later one", false, Due.can(later, 17, 11));
        Page.says("Returns the cell over which it went.");
        Due.same("over b3", 11, proved(0).prove());
        Due.same("over b3 by black", 11, provedForWhite().prove());
        Page.says("Throws `NoSuchElementException` if it is not proved");
        Bench not = Due.bench(5, 5, 1, "Pb4 pc4 ka4");
        Due.thrown("captures could have been", Due.MISSING, not, () -> not.prove());
        Due.same("it cannot be captured then", false, Due.can(not, 17, 11));
        Bench once = proved(0);
        once.army('q', 1, 1);
        Due.thrown("no more", Due.MISSING, once, () -> once.prove());
        Due.same("what was proved stays so", true, Due.can(once, 17, 11));
        Bench white = proved(0);
        white.turn(0);
        Due.thrown("with the other side to move", Due.MISSING, white, () -> white.prove());
    }

    private static void promiseArray() {
        Page.open("Promise 29");
        Page.says("Keeps the position as the array.");
        Page.says("Returns how many men it has.");
        Bench x = Edges.empty(6, 6);
        Due.same("none", 0, x.array());
        for (int i = 0; i < 10; i++) {
            x.man('n', i % 2, i);
            Due.same("men", i + 1, x.array());
            Due.same("kept", 1, x.games(0));
        }
        x.lift(3);
        Due.same("not the array", 0, x.games(0));
        Due.same("one less", 9, x.array());
        Due.same("kept again", 1, x.games(0));
    }

    private static void promiseGames() {
        Page.open("Promise 30");
        Page.says("Returns how many games lead from the array to the position.");
        Page.says("- `halves`: how many half moves, 0 to 4");
        Page.says("Returns their number.");
        Bench x = Due.bench(6, 6, 0, "Ra1 rf6");
        x.array();
        int[] due = {1, 0, 0, 0, 98};
        for (int halves = 0; halves <= 4; halves++) {
            Due.same("in " + halves, due[halves], x.games(halves));
        }
        Page.says("Throws `IllegalArgumentException` if it is out of range");
        Bench none = Due.bench(6, 6, 0, "Ra1 rf6");
        for (int halves : new int[] {-1, -2, 5, 6, 256, 65536, Integer.MIN_VALUE, Integer.MAX_VALUE}) {
            Due.thrown("in " + halves, Due.ARGUMENT, x, () -> x.games(halves));
            Due.thrown("ahead of no array", Due.ARGUMENT, none, () -> none.games(halves));
        }
        Page.says("Throws `IllegalStateException` if no array is kept");
        for (int halves = 0; halves <= 4; halves++) {
            int n = halves;
            Due.thrown("in " + n, Due.STATE, none, () -> none.games(n));
        }
        x.board(6, 6);
        Due.thrown("on a new board", Due.STATE, x, () -> x.games(0));
    }
}
