/** Sentences under Problems and Keys, tries, duals, and of the promises 19 to 24. */
final class EdgesOfProblems {
    private static final String KINDS = "dshz";

    private EdgesOfProblems() {
    }

    static void run() {
        Page.open("Problems");
        aims();
        direct();
        self();
        help();
        series();
        turns();
        passing();
        tooWide();
        order();
        Page.open("Keys, tries, duals");
        keys();
        tries();
        duals();
        promiseProblem();
        promiseSolutions();
        promiseSolved();
        promiseTries();
        promiseTried();
        promiseDuals();
    }

    static Bench told(int columns, int rows, String men, String problem) {
        Bench x = Due.bench(columns, rows, 0, men);
        tell(x, problem);
        return x;
    }

    /** A problem stands as "d2#". */
    private static void tell(Bench x, String problem) {
        x.problem(problem.charAt(0), problem.charAt(1) - '0', problem.charAt(2));
    }

    private static int plies(String problem) {
        int moves = problem.charAt(1) - '0';
        return problem.charAt(0) == 'h' ? 2 * moves : problem.charAt(0) == 'z' ? moves : 1;
    }

    private static ByHand byHand(String problem) {
        return new ByHand(problem.charAt(0), problem.charAt(1) - '0', problem.charAt(2));
    }

    /** The solutions are these, and the ones that moves of the face lead to. */
    private static void solved(String what, String due, int columns, int rows, String men, String problem) {
        Bench x = told(columns, rows, men, problem);
        Due.same(what + ", " + problem + " of " + men, due, Due.solutions(x, plies(problem)));
        Due.same(what + ", how many", due.isEmpty() ? 0 : due.split(" ").length, x.solutions());
        ByHand hand = byHand(problem);
        Due.same(what + ", by hand", due, hand.solutions(hand.first(x)));
    }

    private static void aims() {
        Page.says("An aim, '#' mate, or '=' stalemate, is reached by a move, if the other side is so then.");
        solved("a mate", "8-2", 3, 4, "Kb3 Rc3 ka1", "d1#");
        solved("no stalemate", "", 3, 4, "Kb3 Rc3 ka1", "d1=");
        solved("a stalemate", "4-5", 4, 3, "Qa2 kd3", "d1=");
        solved("no mate", "", 4, 3, "Qa2 kd3", "d1#");
        solved("check is no mate", "", 4, 4, "Ra2 kd4", "d1#");
        solved("a stalemate of a side without a king", "9-13", 5, 3, "Ke2 cd3", "d1=");
    }

    private static void direct() {
        Page.says("'d' in n moves, 1 or 2: white moves first;");
        solved("white's move", "2-5", 3, 3, "ka2 Kc1 Rc3", "d2#");
        Page.says("a first move solves it if it reaches the aim,");
        solved("at once, in one", "7-1 7-4 7-6", 3, 3, "ka1 Kc1 Qb3", "d1#");
        solved("at once, in two, and not at once", "7-1 7-4 7-6 7-8", 3, 3, "ka1 Kc1 Qb3", "d2#");
        Page.says("or, n being 2,");
        solved("not in one", "", 4, 4, "Kc2 kd4 Rc3", "d1#");
        solved("in two", "10-8", 4, 4, "Kc2 kd4 Rc3", "d2#");
        Page.says("black can move,");
        solved("a stalemate is no mate in two", "8-2 8-6 8-9 12-7 12-11", 5, 5, "Kc3 Qd2 ka1", "d2#");
        Due.same("though 8-7 is one", true, ByHand.after(Due.bench(5, 5, 0, "Kc3 Qd2 ka1"), index(5, "Kc3 Qd2 ka1", 8, 7)).isAim('='));
        solved("a mate is no stalemate in two", "", 3, 4, "Kb3 Rc3 ka1", "d2=");
        Page.says("and behind each lawful move of black white has one that reaches the aim.");
        solved("by promotion, but not each", "4-7=q", 3, 3, "Kc3 kb1 Pb2", "d2#");
        solved("stalemate behind each", "1-4", 3, 5, "ka4 Qb1", "d2=");
    }

    private static int index(int columns, String men, int from, int to) {
        Bench x = Due.bench(columns, columns, 0, men);
        for (int i = 0; i < x.moves(); i++) {
            if (x.moveAt(i, 'f') == from && x.moveAt(i, 't') == to) {
                return i;
            }
        }
        return -1;
    }

    private static void self() {
        Page.says("'s' in n moves, 1 or 2: white moves first; a first move solves it if black can move,");
        solved("black cannot move", "", 3, 3, "Ka1", "s1=");
        solved("nor in two", "", 3, 3, "Ka1", "s2=");
        solved("black is mated", "", 3, 4, "Kb3 Rc3 ka1", "s1#");
        Page.says("and each lawful move of black either reaches the aim, with white as the other side,");
        solved("a selfmate", "3-5", 3, 3, "kc3 Kc1 qb3 Ra2", "s1#");
        solved("a selfstalemate", "3-1", 3, 3, "Ka2 kc3 pb2", "s1=");
        solved("in two, too", "3-5", 3, 3, "kc3 Kc1 qb3 Ra2", "s2#");
        Page.says("or, n being 2, is such that white has a move then that solves it in 1.");
        solved("not in one", "", 3, 3, "ka2 Pc2", "s1=");
        solved("in two", "5-8=q", 3, 3, "ka2 Pc2", "s2=");
        solved("not in one, without pawns", "", 3, 4, "Ka1 kc3 Qa4 cc1", "s1=");
        solved("in two, without pawns", "0-1", 3, 4, "Ka1 kc3 Qa4 cc1", "s2=");
        solved("in two, by the last man's capture", "6-5", 4, 4, "ka3 Rc2", "s2=");
    }

    private static void help() {
        Page.says("'h' in n moves, 1 or 2: black moves first, both in turn, n moves each;");
        solved("in one", "9-6,2-0", 3, 4, "ka4 Kc3 Rc1", "h1#");
        solved("black cannot move first", "", 3, 3, "ka3 Kc1 Qc2", "h1#");
        solved("in two", "0-1,11-7,1-0,8-2", 3, 4, "ka1 Kc4 Rc3", "h2#");
        solved("not in one", "", 3, 4, "ka1 Kc4 Rc3", "h1#");
        solved("by promotion", "0-1,5-8=r,1-0,8-2", 3, 3, "ka1 Kb3 Pc2", "h2#");
        Page.says("a solution is a row of lawful moves of which the last one, by white, reaches the aim.");
        solved("mate alone", "15-10,23-11 15-10,23-20", 5, 5, "Kc3 ka4 Qd5", "h1#");
        solved("stalemate alone", "1-0,5-9=q", 4, 3, "kb1 Pb2", "h1=");
        solved("stalemate, not by a promotion on the way", "9-4,5-9=q,4-0,9-6", 4, 3, "kb3 Pb2", "h2=");
    }

    private static void series() {
        Page.says("'z' in n moves, 1 to 3: a row of n lawful moves of white alone, black not moving;");
        solved("in one", "1-4", 3, 3, "kc3 Ka1 Qb1", "z1#");
        solved("in two", "0-3,1-7", 3, 4, "ka4 Ka1 Qb1", "z2#");
        solved("not in one", "", 3, 4, "ka4 Ka1 Qb1", "z1#");
        solved("in three", "5-2,2-5,8-4", 3, 3, "ka2 Kc2 Qc3", "z3#");
        Page.says("the last one reaches the aim,");
        solved("a stalemate by promotion", "4-7=q,7-5", 3, 3, "ka1 Pb2", "z2=");
        solved("a stalemate in three", "5-9,9-13=q,13-5 5-9,9-13=q,13-10", 4, 4, "Ka4 kd1 Pb2", "z3=");
        solved("a stalemate that is left and reached again", "1-0,0-1,1-0", 3, 3, "kb3 Kb1 Qc1", "z3=");
        Page.says("and black's king is not in check behind any other one.");
        solved("not by way of check", "11-7,24-20 11-10,24-4 24-9,9-4 24-14,14-4 24-19,19-4 24-22,22-2 24-23,23-3", 5, 5, "Kb3 Re5 ka1", "z2#");
        Due.same("though 24-20 gives one", true, ByHand.after(Due.bench(5, 5, 0, "Kb3 Re5 ka1"), index(5, "Kb3 Re5 ka1", 24, 20)).isCheck(1));
    }

    private static void turns() {
        Page.says("Whose turn it is does not matter for problems,");
        String[] all = {"33d2#ka1 Kc1 Qb3", "44d2#Kc2 kd4 Rc3", "33s1=Ka2 kc3 pb2", "34s2=Ka1 kc3 Qa4 cc1", "34h1#ka4 Kc3 Rc1", "33h2#ka1 Kb3 Pc2",
            "34z2#ka4 Ka1 Qb1", "44z3=Ka4 kd1 Pb2"};
        for (String one : all) {
            Bench x = told(one.charAt(0) - '0', one.charAt(1) - '0', one.substring(5), one.substring(2, 5));
            String white = Due.solutions(x, plies(one.substring(2, 5))) + Due.outcome(() -> x.tries()) + Due.outcome(() -> x.duals(0));
            x.turn(1);
            String black = Due.solutions(x, plies(one.substring(2, 5))) + Due.outcome(() -> x.tries()) + Due.outcome(() -> x.duals(0));
            Due.same(one + " with black to move", white, black);
            Due.same(one + " is still black's turn", 1, x.turn(0));
        }
    }

    /** White to move, black's pawn having just gone by two cells. */
    private static Bench passed() {
        Bench x = Due.bench(5, 5, 1, "pb4 Pc2 Ka2");
        for (char kind : "qrbn".toCharArray()) {
            x.army(kind, 0, 0);
        }
        x.army('p', 0, 1);
        Due.go(x, 16, 6);
        return x;
    }

    private static void passing() {
        Page.says("nor does a pawn that could be captured en passant,");
        for (String problem : new String[] {"d1=", "z1="}) {
            Bench x = passed();
            tell(x, problem);
            Due.same("it could be captured", true, Due.can(x, 7, 11));
            Due.same("not in " + problem, "5-1 5-6", Due.solutions(x, 1));
            x.prove();
            Due.same("proved, in " + problem, "5-1 5-6 7-11", Due.solutions(x, 1));
        }
        Bench help = Due.bench(3, 5, 0, "Pb2 pc4 ka4 Rb5 Pa2 Qc5");
        Due.go(help, 4, 10);
        tell(help, "h1=");
        Due.same("black could capture it", true, Due.can(help, 11, 7));
        Due.same("not in a problem", "", Due.solutions(help, 2));
        for (String problem : new String[] {"h1=", "h2=", "d1=", "z2="}) {
            Bench corner = told(4, 4, "Pa2 pb2 Kd3", problem);
            ByHand hand = byHand(problem);
            Due.same("nor on the cell 0, " + problem, hand.solutions(hand.first(corner)), Due.solutions(corner, plies(problem)));
        }
        Page.says("but for one that was proved, for the side that could capture it.");
        Bench black = Due.bench(3, 5, 1, "Pb4 pc4 ka4 Rb5 Pa2 Qc5");
        EdgesOfHistory.onlyPawns(black, 1, 1);
        tell(black, "h1=");
        Due.same("not yet proved", "", Due.solutions(black, 2));
        black.prove();
        Due.same("proved, it is black's first move", "11-7,13-7", Due.solutions(black, 2));
        for (String problem : new String[] {"h1#", "h1=", "h2="}) {
            tell(black, problem);
            Due.same("black moves first in " + problem, byHand(problem).solutions(black), Due.solutions(black, plies(problem)));
        }
        Bench white = EdgesOfHistory.provedForWhite();
        for (String problem : new String[] {"d1=", "z1=", "d2=", "z2=", "s2=", "z3="}) {
            tell(white, problem);
            Due.same("white moves first in " + problem, byHand(problem).solutions(white), Due.solutions(white, plies(problem)));
        }
        Due.same("it is a key", true, (Due.solutions(white, 3) + " ").contains("7-11,"));
        tell(white, "h1=");
        Bench told = white.twin();
        told.turn(1);
        Due.same("not black's to capture", byHand("h1=").solutions(told), Due.solutions(white, 2));
    }

    private static void wide(boolean due, int columns, int rows, String men, int moves) {
        for (char kind : KINDS.toCharArray()) {
            for (int turn = 0; turn < 2; turn++) {
                Bench x = Due.bench(columns, rows, turn, men);
                x.problem(kind, kind == 'z' ? moves : Math.min(moves, 2), '#');
                String what = kind + " in " + moves + " of " + men;
                if (due) {
                    Due.same("too wide, " + what, "UnsupportedOperationException", Due.outcome(() -> x.solutions()));
                } else {
                    Due.same("not too wide, " + what, true, Due.outcome(() -> x.solutions()).length() < 5);
                }
            }
        }
    }

    private static void tooWide() {
        Page.says("A problem is too wide if it is in 2 moves or more,");
        wide(false, 6, 5, "qd5 ra4 rb2 Bd2", 1);
        wide(true, 6, 5, "qd5 ra4 rb2 Bd2", 2);
        wide(true, 6, 5, "qd5 ra4 rb2 Bd2", 3);
        Page.says("and how many lawful moves white would have in the position, if it moved, times how many black would have, if it moved,");
        Due.same("7 of white's", 7, Due.bench(6, 5, 0, "qd5 ra4 rb2 Bd2").moves());
        Due.same("29 of black's", 29, Due.bench(6, 5, 1, "qd5 ra4 rb2 Bd2").moves());
        wide(false, 5, 5, "Qb2 qd5 Bd2", 2);
        wide(false, 6, 6, "Qa1 Qb2 Qc3 Qd4", 2);
        wide(true, 6, 6, "ra4 Qc4 Rf6", 2);
        wide(false, 6, 6, "ra4 Qc4 Rf6 Ka1", 2);
        Due.same("lawful ones alone, white being in check", true, Due.bench(6, 6, 0, "ra4 Qc4 Rf6 Ka1").moves() < 20);
        Page.says("is more than 200.");
        Due.same("10 of white's", 10, Due.bench(6, 6, 0, "ke1 Rf3 qc2").moves());
        Due.same("20 of black's", 20, Due.bench(6, 6, 1, "ke1 Rf3 qc2").moves());
        wide(false, 6, 6, "ke1 Rf3 qc2", 2);
        wide(false, 5, 4, "qc1 Qb2 Qb4", 2);
        Due.same("3 of white's", 3, Due.bench(6, 6, 0, "qb4 qd3 qe5 qc1 Ne1").moves());
        Due.same("67 of black's", 67, Due.bench(6, 6, 1, "qb4 qd3 qe5 qc1 Ne1").moves());
        wide(true, 6, 6, "qb4 qd3 qe5 qc1 Ne1", 2);
        wide(true, 6, 6, "Qd5 Re2 Qa4 Qd3 Qf4 ce1", 2);
        proved(6, 1, "Pd4 pe4 kc4 qc5 rb3");
        proved(6, 0, "pd2 Pe2 Kc2 Qc1 Ra3");
    }

    /** With the capture en passant that is proved, and with it alone, the problem is too wide. */
    private static void proved(int columns, int side, String men) {
        Bench x = Due.bench(columns, 5, side, men);
        for (char kind : "qrbn".toCharArray()) {
            x.army(kind, side, (" " + men).indexOf(" " + (side == 0 ? Character.toUpperCase(kind) : kind)) >= 0 ? 1 : 0);
        }
        x.army('p', side, 1);
        for (char kind : KINDS.toCharArray()) {
            Bench y = x.twin();
            y.problem(kind, 2, '#');
            Due.same("not too wide, " + men, true, Due.outcome(() -> y.solutions()).length() < 5);
            y.prove();
            Due.same("too wide, proved, " + men, "UnsupportedOperationException", Due.outcome(() -> y.solutions()));
            y.turn(side);
            Due.same("nothing is proved any more, " + men, true, Due.outcome(() -> y.solutions()).length() < 5);
        }
    }

    private static void order() {
        Page.says("Rows of solutions are in the order of their first moves, then of their second ones, and so on.");
        solved("of the first moves", "1-2,5-8,2-0 5-8,1-2,2-0", 3, 4, "Kc2 ka3 Rb1", "z3#");
        solved("of the second ones", "15-10,23-11 15-10,23-20", 5, 5, "Kc3 ka4 Qd5", "h1#");
        solved("of the third ones", "5-9,9-13=q,13-5 5-9,9-13=q,13-10", 4, 4, "Ka4 kd1 Pb2", "z3=");
        for (String one : new String[] {"33z3=Kb3 pb2", "55z2#Kb3 Re5 ka1", "33z3=Kb3 kb1 Pa2", "34h2=Kb1 Qa4 kc3", "33h2#Ka3 Qb1 kc3 pc2"}) {
            Bench x = told(one.charAt(0) - '0', one.charAt(1) - '0', one.substring(5), one.substring(2, 5));
            ByHand hand = byHand(one.substring(2, 5));
            Due.same("all of " + one, hand.solutions(hand.first(x)), Due.solutions(x, plies(one.substring(2, 5))));
        }
    }

    private static void keys() {
        Page.says("Of 'd' and 's', the keys are the first moves that solve it, in their order;");
        solved("four keys", "7-1 7-4 7-6 7-8", 3, 3, "ka1 Kc1 Qb3", "d2#");
        solved("two keys on one cell", "7-10=q 7-10=r", 3, 4, "Kc2 ka1 Pb3", "d2#");
        solved("a key of 's'", "8-4", 3, 3, "Kc1 ka2 Qc3 qb3", "s1#");
        solved("none", "", 3, 3, "Kc1 ka3", "d2#");
    }

    private static void tried(String what, String due, int columns, int rows, String men, String problem) {
        Bench x = told(columns, rows, men, problem);
        Due.same(what + ", " + problem + " of " + men, due, triesOf(x));
        ByHand hand = byHand(problem);
        Due.same(what + ", by hand", due, hand.tries(hand.first(x)));
    }

    private static String triesOf(Bench x) {
        StringBuilder s = new StringBuilder();
        for (int i = 0; i < x.tries(); i++) {
            s.append(i == 0 ? "" : " ").append(x.tried(i, false)).append(':').append(x.tried(i, true));
        }
        return s.toString();
    }

    private static void tries() {
        Page.says("a try is a first move that does not,");
        tried("not the key 802", "705:3 706:1 805:1 811:1", 3, 4, "Kb3 Rc3 ka1", "d2#");
        Page.says("n being 2,");
        tried("none in one", "", 3, 4, "Kb3 Rc3 ka1", "d1#");
        tried("none in one, 's'", "", 3, 3, "ka2 Kc3 Qc1 qb1", "s1#");
        tried("in two, 's'", "206:306", 3, 3, "ka2 Kc3 Qc1 qb1", "s2#");
        Page.says("black being able to move,");
        tried("not the stalemate 807", "803:5 804:5 805:5 813:5 823:1 1213:1 1216:1 1217:1 1218:1", 5, 5, "Kc3 Qd2 ka1", "d2#");
        Page.says("because of just one lawful move of black, its refutation.");
        tried("not because of two", "407:103", 3, 3, "Kc3 kb1 Pb2", "d2#");
        tried("one for each", "601:1510 602:1510 603:1510 1009:1514 1011:1514 1014:1514", 4, 4, "Kc2 kd4 Rc3", "d2#");
        tried("two promotions on one cell", "207:1409 510:1409 510:1409", 5, 3, "ke3 Kc1 Pa2", "d2#");
        tried("of selfstalemates", "3:210 907:807 911:811", 3, 4, "Ka1 kc3 Qa4 cc1", "s2=");
        tried("none at all", "", 4, 4, "ka3 Rc2", "s2=");
    }

    private static void duals(String what, String due, int columns, int rows, String men) {
        Bench x = told(columns, rows, men, "d2#");
        StringBuilder got = new StringBuilder();
        for (int i = 0; i < x.solutions(); i++) {
            got.append(i == 0 ? "" : " ").append(x.duals(i));
        }
        Due.same(what + ", " + men, due, got.toString());
        ByHand hand = byHand("d2#");
        Due.same(what + ", by hand", due, hand.duals(hand.first(x)));
    }

    private static void duals() {
        Page.says("A dual is a move of black behind a key, n being 2, 'd', that does not end the problem,");
        duals("none behind mates, none behind one answer", "0 0 0 0", 3, 3, "ka1 Kc1 Qb3");
        Page.says("behind which white has two moves or more that reach the aim.");
        duals("one answer", "0", 4, 4, "Kc2 kd4 Rc3");
        duals("two promotions that mate", "1", 3, 3, "Kc3 kb1 Pb2");
        duals("behind the last key alone", "0 0 0 0 1", 5, 5, "Kc3 Qd2 ka1");
        duals("two cells", "1", 5, 3, "kc3 Ka1 Qa2");
        duals("the first move of all and another one", "1", 4, 4, "ka2 Kc4 Qd1");
        duals("without a king", "1", 4, 3, "kd1 Pd2 Pa2");
    }

    private static void promiseProblem() {
        Page.open("Promise 19");
        Page.says("Tells a problem.");
        Bench x = Due.bench(3, 4, 0, "Kb3 Rc3 ka1");
        x.problem('d', 1, '#');
        Due.same("a mate", 1, x.solutions());
        x.problem('d', 1, '=');
        Due.same("another aim", 0, x.solutions());
        x.problem('z', 1, '#');
        Due.same("another kind", 1, x.solutions());
        Page.says("- `kind`: 'd', 's', 'h' or 'z'");
        Page.says("- `moves`: how many moves");
        Page.says("- `aim`: '#' or '='");
        Page.says("Returns how many moves the one before had, 0 without one.");
        Bench y = new Bench();
        int before = 0;
        for (char kind : KINDS.toCharArray()) {
            for (int moves = 1; moves <= (kind == 'z' ? 3 : 2); moves++) {
                for (char aim : "#=".toCharArray()) {
                    Due.same("ahead of " + kind + moves + aim, before, y.problem(kind, moves, aim));
                    before = moves;
                }
            }
        }
        y.board(5, 5);
        Due.same("on a new board", 0, y.problem('d', 2, '#'));
        Page.says("Throws `IllegalArgumentException` if there is no such kind or aim, or the number is out of range for it");
        for (char bad : new char[] {'D', 'x', 'k', '#', '.', ' ', (char) 0, (char) ('d' + 256), (char) 65535}) {
            Due.thrown("kind " + (int) bad, Due.ARGUMENT, x, () -> x.problem(bad, 1, '#'));
            if (bad != '#') {
                Due.thrown("aim " + (int) bad, Due.ARGUMENT, x, () -> x.problem('d', 1, bad));
            }
        }
        for (char kind : KINDS.toCharArray()) {
            int most = kind == 'z' ? 3 : 2;
            for (int moves : new int[] {0, -1, most + 1, most + 2, 256 + 1, 65536 + 1, Integer.MIN_VALUE, Integer.MAX_VALUE}) {
                Due.thrown(kind + " in " + moves, Due.ARGUMENT, x, () -> x.problem(kind, moves, '#'));
                Due.thrown(kind + " in " + moves, Due.ARGUMENT, x, () -> x.problem(kind, moves, '='));
            }
        }
    }

    private static void promiseSolutions() {
        Page.open("Promise 20");
        Page.says("Returns how many keys, or rows of solutions, there are.");
        Page.says("Returns their number.");
        Due.same("no key", 0, told(3, 3, "Ka1 kc3", "d1#").solutions());
        Due.same("four keys", 4, told(3, 3, "ka1 Kc1 Qb3", "d2#").solutions());
        Due.same("one key of 's'", 1, told(3, 3, "Ka2 kc3 pb2", "s1=").solutions());
        Due.same("two rows with one first move", 2, told(5, 5, "Kc3 ka4 Qd5", "h1#").solutions());
        Due.same("seven rows", 7, told(5, 5, "Kb3 Re5 ka1", "z2#").solutions());
        Due.same("none on an empty board", 0, told(5, 5, "", "h2=").solutions());
        Page.says("Throws `IllegalStateException` if no problem is told");
        Bench none = Due.bench(6, 5, 0, "qd5 ra4 rb2 Bd2");
        Due.thrown("no problem", Due.STATE, none, () -> none.solutions());
        none.problem('d', 1, '#');
        none.board(5, 5);
        Due.thrown("no problem on a new board", Due.STATE, none, () -> none.solutions());
        Page.says("Throws `UnsupportedOperationException` if it is too wide");
        for (char kind : KINDS.toCharArray()) {
            Bench wide = told(6, 5, "qd5 ra4 rb2 Bd2", kind + "2#");
            Due.thrown("too wide", Due.UNSUPPORTED, wide, () -> wide.solutions());
        }
    }

    private static void promiseSolved() {
        Page.open("Promise 21");
        Page.says("Returns something of a move of a solution; of 'd' and 's', of the key.");
        Page.says("- `solution`: the number of the solution, from 0");
        Page.says("- `ply`: the place of the move, from 0");
        Page.says("- `what`: 'f' the cell from which, 't' to which, 'p' the letter that a pawn becomes, as a number, 0 for none");
        Page.says("Returns the number.");
        solved("keys", "7-1 7-4 7-6 7-8", 3, 3, "ka1 Kc1 Qb3", "d2#");
        solved("rows", "0-1,5-8=r,1-0,8-2", 3, 3, "ka1 Kb3 Pc2", "h2#");
        Page.says("Throws `IllegalStateException` if no problem is told");
        Bench none = Due.bench(6, 5, 0, "qd5 ra4 rb2 Bd2");
        Due.thrown("no problem", Due.STATE, none, () -> none.solved(0, 0, 'f'));
        Due.thrown("ahead of all else", Due.STATE, none, () -> none.solved(-1, -1, 'x'));
        Page.says("Throws `UnsupportedOperationException` if it is too wide");
        for (char kind : KINDS.toCharArray()) {
            Bench wide = told(6, 5, "qd5 ra4 rb2 Bd2", kind + "2#");
            Due.thrown("too wide", Due.UNSUPPORTED, wide, () -> wide.solved(0, 0, 'f'));
            Due.thrown("ahead of no such solution", Due.UNSUPPORTED, wide, () -> wide.solved(-1, 0, 'x'));
        }
        Page.says("Throws `NoSuchElementException` if there is no such solution or move");
        String[] all = {"33d2#ka1 Kc1 Qb3", "33s1=Ka2 kc3 pb2", "55h1#Kc3 ka4 Qd5", "33h2#ka1 Kb3 Pc2", "33z1#kc3 Ka1 Qb1", "55z2#Kb3 Re5 ka1", "33z3#ka2 Kc2 Qc3"};
        for (String one : all) {
            String problem = one.substring(2, 5);
            Bench x = told(one.charAt(0) - '0', one.charAt(1) - '0', one.substring(5), problem);
            int many = x.solutions();
            for (int bad : Edges.badIndexes(many)) {
                Due.thrown("solution " + bad + " of " + problem, Due.MISSING, x, () -> x.solved(bad, 0, 'f'));
            }
            for (int bad : Edges.badIndexes(plies(problem))) {
                Due.thrown("ply " + bad + " of " + problem, Due.MISSING, x, () -> x.solved(many - 1, bad, 't'));
                Due.thrown("ply " + bad + ", ahead of no such thing", Due.MISSING, x, () -> x.solved(many - 1, bad, 'x'));
            }
        }
        Bench unsolved = told(3, 3, "Ka1 kc3", "d1#");
        Due.thrown("no solution", Due.MISSING, unsolved, () -> unsolved.solved(0, 0, 'f'));
        Page.says("Throws `IllegalArgumentException` if there is no such thing");
        Bench x = told(5, 5, "Kc3 ka4 Qd5", "h1#");
        for (char what : new char[] {'x', 'F', 'k', 'c', 'e', '.', (char) 0, (char) ('f' + 256), (char) 65535}) {
            Due.thrown("no such thing as " + (int) what, Due.ARGUMENT, x, () -> x.solved(0, 0, what));
            Due.thrown("no such thing as " + (int) what, Due.ARGUMENT, x, () -> x.solved(1, 1, what));
        }
    }

    private interface OfBench {
        Object of(Bench x);
    }

    /** What is asked of a problem that has no tries or duals, and of one that is too wide, is refused. */
    private static void refused(String problems, OfBench call) {
        for (String problem : problems.split(" ")) {
            Bench x = told(4, 4, "Kc2 kd4 Rc3", problem);
            Due.thrown("of " + problem, Due.UNSUPPORTED, x, () -> call.of(x));
            Bench wide = told(6, 5, "qd5 ra4 rb2 Bd2", problem);
            Due.thrown("of " + problem + ", too wide or not", Due.UNSUPPORTED, wide, () -> call.of(wide));
        }
    }

    private static void promiseTries() {
        Page.open("Promise 22");
        Page.says("Returns how many tries there are.");
        Page.says("Returns their number.");
        Due.same("six", 6, told(4, 4, "Kc2 kd4 Rc3", "d2#").tries());
        Due.same("one of 's'", 1, told(3, 3, "ka2 Kc3 Qc1 qb1", "s2#").tries());
        Due.same("none in one", 0, told(4, 4, "Kc2 kd4 Rc3", "d1#").tries());
        Due.same("none on an empty board", 0, told(4, 4, "", "d2#").tries());
        Page.says("Throws `IllegalStateException` if no problem is told");
        Bench none = Due.bench(6, 5, 0, "qd5 ra4 rb2 Bd2");
        Due.thrown("no problem", Due.STATE, none, () -> none.tries());
        Page.says("Throws `UnsupportedOperationException` if it is not 'd' or 's', or too wide");
        refused("h1# h2# h1= h2= z1# z2# z3# z1= z2= z3=", x -> x.tries());
        for (String problem : new String[] {"d2#", "s2#", "d2=", "s2="}) {
            Bench wide = told(6, 5, "qd5 ra4 rb2 Bd2", problem);
            Due.thrown("too wide", Due.UNSUPPORTED, wide, () -> wide.tries());
        }
        Due.same("never too wide in one", 0, told(6, 5, "qd5 ra4 rb2 Bd2", "d1#").tries());
    }

    private static void promiseTried() {
        Page.open("Promise 23");
        Page.says("Returns a try, or its refutation.");
        Page.says("- `index`: the number of the try, from 0");
        Page.says("- `isRefutation`: whether the refutation is meant, otherwise the try");
        Page.says("Returns 100 times the cell from which, plus that to which.");
        tried("all of them", "601:1510 602:1510 603:1510 1009:1514 1011:1514 1014:1514", 4, 4, "Kc2 kd4 Rc3", "d2#");
        tried("from and to the cell 0", "1:1213 501:1208 506:1213 507:1207 508:1208", 5, 3, "kc3 Ka1 Qa2", "d2#");
        Bench first = told(4, 4, "Kc2 kd4 Rc3", "d2#");
        Due.same("asked first of all", 1014, first.tried(5, false));
        Due.lay(first, 4, "Pa2");
        first.lift(4);
        Due.same("and behind another position", 1514, first.tried(5, true));
        first.man('q', 0, 0);
        Due.same("as it is now", byHand("d2#").tries(first), triesOf(first));
        Page.says("Throws `IllegalStateException` if no problem is told");
        Bench none = Due.bench(6, 5, 0, "qd5 ra4 rb2 Bd2");
        Due.thrown("no problem", Due.STATE, none, () -> none.tried(0, false));
        Due.thrown("ahead of no such try", Due.STATE, none, () -> none.tried(-1, true));
        Page.says("Throws `UnsupportedOperationException` if it is not 'd' or 's', or too wide");
        refused("h1# h2# h1= h2= z1# z2# z3# z1= z2= z3=", x -> x.tried(0, false));
        refused("h1# h2# z1# z3=", x -> x.tried(-1, true));
        for (String problem : new String[] {"d2#", "s2#", "d2=", "s2="}) {
            Bench wide = told(6, 5, "qd5 ra4 rb2 Bd2", problem);
            Due.thrown("too wide", Due.UNSUPPORTED, wide, () -> wide.tried(0, false));
            Due.thrown("too wide, ahead of no such try", Due.UNSUPPORTED, wide, () -> wide.tried(-1, true));
        }
        Page.says("Throws `NoSuchElementException` if there is no such try");
        Bench x = told(4, 4, "Kc2 kd4 Rc3", "d2#");
        for (int index : Edges.badIndexes(6)) {
            Due.thrown("try " + index, Due.MISSING, x, () -> x.tried(index, false));
            Due.thrown("refutation " + index, Due.MISSING, x, () -> x.tried(index, true));
        }
        Bench one = told(4, 4, "Kc2 kd4 Rc3", "d1#");
        Due.thrown("none in one", Due.MISSING, one, () -> one.tried(0, false));
    }

    private static void promiseDuals() {
        Page.open("Promise 24");
        Page.says("Returns how many duals there are behind a key.");
        Page.says("- `key`: the number of the key, from 0");
        Page.says("Returns their number.");
        duals("of each key", "0 0 0 0 1", 5, 5, "Kc3 Qd2 ka1");
        Page.says("Throws `IllegalStateException` if no problem is told");
        Bench none = Due.bench(6, 5, 0, "qd5 ra4 rb2 Bd2");
        Due.thrown("no problem", Due.STATE, none, () -> none.duals(0));
        Due.thrown("ahead of no such key", Due.STATE, none, () -> none.duals(-1));
        Page.says("Throws `UnsupportedOperationException` if it is not 'd' in 2, or too wide");
        refused("d1# d1= s1# s2# s1= s2= h1# h2# z1# z2# z3=", x -> x.duals(0));
        refused("d1# s2# h2# z2#", x -> x.duals(-1));
        for (String problem : new String[] {"d2#", "d2="}) {
            Bench wide = told(6, 5, "qd5 ra4 rb2 Bd2", problem);
            Due.thrown("too wide", Due.UNSUPPORTED, wide, () -> wide.duals(0));
            Due.thrown("too wide, ahead of no such key", Due.UNSUPPORTED, wide, () -> wide.duals(-1));
        }
        Page.says("Throws `NoSuchElementException` if there is no such key");
        Bench x = told(3, 3, "ka1 Kc1 Qb3", "d2#");
        for (int key : Edges.badIndexes(4)) {
            Due.thrown("key " + key, Due.MISSING, x, () -> x.duals(key));
        }
        Bench unsolved = told(3, 3, "Kc1 ka3", "d2#");
        Due.thrown("no key", Due.MISSING, unsolved, () -> unsolved.duals(0));
    }
}
