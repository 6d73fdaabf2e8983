/** Promises 19 to 24: problems. */
public final class ProblemsTest {
    public static void main(String[] args) {
        problem();
        directProblems();
        triesAndRefutations();
        selfProblems();
        helpProblems();
        seriesProblems();
        passing();
        tooWide();
        solvedThrows();
        triesThrow();
        duals();
        Due.end("ProblemsTest");
    }

    private static Bench told(int columns, int rows, String men, char kind, int moves, char aim) {
        Bench x = Due.bench(columns, rows, 0, men);
        x.problem(kind, moves, aim);
        return x;
    }

    /** The solutions are as due, whoever moves; a problem's kind, moves and aim stand as "d2#". */
    private static void solved(String what, String due, int columns, int rows, String men, String problem) {
        int moves = problem.charAt(1) - '0';
        Bench x = told(columns, rows, men, problem.charAt(0), moves, problem.charAt(2));
        int plies = problem.charAt(0) == 'h' ? 2 * moves : problem.charAt(0) == 'z' ? moves : 1;
        Due.same("20: " + what, due.isEmpty() ? 0 : due.split(" ").length, x.solutions());
        Due.same("21: " + what, due, Due.solutions(x, plies));
        x.turn(1);
        Due.same("21: " + what + ", black moving", due, Due.solutions(x, plies));
        Due.thrown("21: " + what + ", a move more", Due.MISSING, x, () -> x.solved(0, plies, 'f'));
        Due.thrown("21: " + what + ", a solution more", Due.MISSING, x, () -> x.solved(due.isEmpty() ? 0 : due.split(" ").length, 0, 'f'));
    }

    private static void problem() {
        Bench x = new Bench();
        Due.same("19: none before", 0, x.problem('z', 3, '='));
        Due.same("19: three moves before", 3, x.problem('d', 1, '#'));
        Due.same("19: one before", 1, x.problem('s', 2, '#'));
        Due.same("19: two before", 2, x.problem('h', 2, '='));
        Due.thrown("19: no such kind", Due.ARGUMENT, x, () -> x.problem('x', 1, '#'));
        Due.thrown("19: a capital letter", Due.ARGUMENT, x, () -> x.problem('D', 1, '#'));
        Due.thrown("19: no such aim", Due.ARGUMENT, x, () -> x.problem('d', 1, '+'));
        for (char kind : "dshz".toCharArray()) {
            Due.thrown("19: 0 moves of " + kind, Due.ARGUMENT, x, () -> x.problem(kind, 0, '#'));
            Due.thrown("19: -1 moves of " + kind, Due.ARGUMENT, x, () -> x.problem(kind, -1, '#'));
            int most = kind == 'z' ? 3 : 2;
            Due.thrown("19: too many moves of " + kind, Due.ARGUMENT, x, () -> x.problem(kind, most + 1, '#'));
        }
        Due.same("19: still two", 2, x.problem('z', 2, '#'));
    }

    private static void directProblems() {
        solved("a mate in one", "24-4", 5, 5, "Kb3 Re5 ka1", "d1#");
        solved("a queen's mate", "14-2", 5, 3, "Kc3 ka1 Re2 Qe3", "d1#");
        solved("a stalemate by the last man's capture", "9-13", 5, 3, "Ke2 cd3", "d1=");
        solved("two stalemates", "15-10 15-14", 4, 4, "Kd4 ka4 Nb1", "d1=");
        solved("none without a king to be mated", "", 4, 4, "Qa1 nc3", "d1#");
        solved("a mate in two", "10-8", 4, 4, "Kc2 kd4 Rc3", "d2#");
        solved("by promotion", "4-7=q", 3, 3, "Kc3 kb1 Pb2", "d2#");
        solved("by two promotions", "7-10=q 7-10=r", 3, 4, "Kc2 ka1 Pb3", "d2#");
        solved("stalemate in two", "1-4", 3, 4, "Kc2 ka3 Rb1", "d2=");
        Bench x = told(3, 3, "ka1 Kc1 Qb2", 'd', 1, '#');
        x.lift(4);
        x.man('q', 0, 7);
        int inOne = x.solutions();
        Due.same("20: three mates", 3, inOne);
        x.problem('d', 2, '#');
        Due.same("20: mates at once solve it in two, as well", 4, x.solutions());
        Bench y = told(5, 5, "Kc3 Qd2 ka1", 'd', 2, '#');
        Due.same("21: stalemate is no mate in two", false, (" " + Due.solutions(y, 1) + " ").contains(" 8-7 "));
        for (int i = 0; i < y.tries(); i++) {
            Due.same("23: nor a try", false, y.tried(i, false) == 807);
        }
    }

    private static void triesAndRefutations() {
        Bench x = told(4, 4, "Kc2 kd4 Rc3", 'd', 2, '#');
        int[] tries = {601, 602, 603, 1009, 1011, 1014};
        int[] refutations = {1510, 1510, 1510, 1514, 1514, 1514};
        Due.same("22: how many", 6, x.tries());
        for (int i = 0; i < 6; i++) {
            Due.same("23: try " + i, tries[i], x.tried(i, false));
            Due.same("23: its refutation", refutations[i], x.tried(i, true));
        }
        x.turn(1);
        Due.same("22: whoever moves", 6, x.tries());
        x.problem('d', 1, '#');
        Due.same("22: none in one", 0, x.tries());
        Bench s = told(3, 4, "Ka1 kc3 Qa4 cc1", 's', 2, '=');
        Due.same("22: of a selfstalemate", 3, s.tries());
        Due.same("23: its first", 3, s.tried(0, false));
        Due.same("23: and how it fails", 210, s.tried(0, true));
        Due.same("23: its last", 911, s.tried(2, false));
        Due.same("23: and how it fails, too", 811, s.tried(2, true));
        s.problem('s', 1, '=');
        Due.same("22: none in one, selfstalemate", 0, s.tries());
        Bench p = told(3, 3, "Kc3 kb1 Pb2", 'd', 2, '#');
        Due.same("22: promoted otherwise", 1, p.tries());
        Due.same("23: to the same cell", 407, p.tried(0, false));
        Due.same("23: refuted", 103, p.tried(0, true));
    }

    private static void selfProblems() {
        solved("a selfmate in one", "8-4", 3, 3, "Kc1 ka2 Qc3 qb3", "s1#");
        solved("a selfstalemate in one", "3-1", 3, 3, "Ka2 kc3 pb2", "s1=");
        solved("black must be able to move", "", 3, 3, "Ka1", "s1=");
        solved("a selfstalemate in two", "0-1", 3, 4, "Ka1 kc3 Qa4 cc1", "s2=");
        solved("by promotion", "5-8=q", 3, 3, "Kc1 ka3 bb3 Pc2", "s2=");
    }

    private static void helpProblems() {
        solved("a helpmate in one", "6-3,5-3", 3, 4, "Kc4 ka4 Rc2 pa3", "h1#");
        solved("two ways at the end", "15-10,23-11 15-10,23-20", 5, 5, "Kc3 ka4 Qd5", "h1#");
        solved("a helpstalemate", "12-17,1-6 12-18,1-7", 5, 4, "Ke2 kc3 Qb1 Pa2", "h1=");
        solved("a helpmate in two", "14-13,1-2,13-12,6-11", 5, 5, "Kb1 ke3 Rb2 Rb4", "h2#");
        solved("with a promotion", "6-12,4-9,12-18,11-16=q", 5, 4, "Ke1 kb2 Pb3", "h2#");
        solved("none", "", 4, 4, "Ka1 kd4", "h2#");
    }

    private static void seriesProblems() {
        solved("in one", "24-4", 5, 5, "Kb3 Re5 ka1", "z1#");
        solved("in two", "9-14,1-11", 5, 4, "Ke2 kc3 Qb1 Pa2", "z2#");
        solved("in three, in two orders", "1-2,5-8,2-0 5-8,1-2,2-0", 3, 4, "Kc2 ka3 Rb1", "z3#");
        solved("stalemate in three", "5-9,9-13=q,13-5 5-9,9-13=q,13-10", 4, 4, "Ka4 kd1 Pb2", "z3=");
        Bench x = told(5, 5, "Kb3 Re5 ka1", 'z', 2, '#');
        String all = Due.solutions(x, 2);
        Due.same("21: not by way of a check", false, all.contains("24-20,20"));
        Due.same("21: by way of another cell", true, all.contains("24-14,14-4"));
    }

    private static void passing() {
        Bench x = Due.bench(5, 5, 1, "pb4 Pc2 Ka2");
        x.problem('d', 1, '=');
        for (char kind : "qrbn".toCharArray()) {
            x.army(kind, 0, 0);
        }
        x.army('p', 0, 1);
        Due.go(x, 16, 6);
        Due.same("9: it can be captured en passant", true, Due.can(x, 7, 11));
        Due.same("21: not in a problem", "5-1 5-6", Due.solutions(x, 1));
        x.prove();
        Due.same("21: but if it is proved", "5-1 5-6 7-11", Due.solutions(x, 1));
        x.problem('z', 1, '=');
        Due.same("21: in each kind", "5-1 5-6 7-11", Due.solutions(x, 1));
        x.turn(0);
        Due.same("21: nothing is proved then", "5-1 5-6", Due.solutions(x, 1));
        Bench y = HistoryTest.proved();
        y.problem('h', 1, '=');
        y.army('p', 0, 6);
        Due.same("20: white has no move behind the capture", 1, y.prove() / 11);
        y.problem('d', 1, '#');
        Due.same("20: nor is it white's to capture", 0, y.solutions());
        Bench z = told(5, 5, "Pb2 Nc3 pc4", 's', 1, '=');
        Due.same("20: two cells of a pawn in a problem can be answered en passant", true, Due.solutions(z, 1).indexOf("6-16") < 0);
    }

    private static void tooWide() {
        Bench x = told(6, 6, "Rb2 Rc3 rf6", 'd', 2, '#');
        Due.same("20: 20 times 10 is not too wide", 0, x.solutions());
        Due.same("24: nor for tries", 0, x.tries());
        x.man('n', 1, 0);
        for (char kind : "dshz".toCharArray()) {
            x.problem(kind, 2, '#');
            Due.thrown("20: too wide, " + kind, Due.UNSUPPORTED, x, () -> x.solutions());
            Due.thrown("21: too wide, " + kind, Due.UNSUPPORTED, x, () -> x.solved(0, 0, 'f'));
            Due.thrown("21: too wide, ahead of all else, " + kind, Due.UNSUPPORTED, x, () -> x.solved(-1, 9, 'x'));
            Due.thrown("22: too wide, " + kind, Due.UNSUPPORTED, x, () -> x.tries());
            Due.thrown("23: too wide, " + kind, Due.UNSUPPORTED, x, () -> x.tried(-1, true));
            Due.thrown("24: too wide, " + kind, Due.UNSUPPORTED, x, () -> x.duals(-1));
            Due.same("40: too wide, " + kind, true, x.isSound());
            x.problem(kind, 1, '#');
            Due.same("20: in one it never is, " + kind, 0, x.solutions());
        }
        x.problem('z', 3, '#');
        Due.thrown("20: too wide in three", Due.UNSUPPORTED, x, () -> x.solutions());
        x.turn(1);
        Due.thrown("20: whoever moves", Due.UNSUPPORTED, x, () -> x.solutions());
        x.lift(35);
        Due.same("20: black having two moves", 0, x.solutions());
    }

    private static void solvedThrows() {
        Bench x = Due.bench(5, 5, 0, "Kb3 Re5 ka1");
        Due.thrown("20: no problem", Due.STATE, x, () -> x.solutions());
        Due.thrown("21: no problem, ahead of all else", Due.STATE, x, () -> x.solved(-1, -1, 'x'));
        x.problem('d', 1, '#');
        Due.same("21: f", 24, x.solved(0, 0, 'f'));
        Due.same("21: t", 4, x.solved(0, 0, 't'));
        Due.same("21: p", 0, x.solved(0, 0, 'p'));
        Due.thrown("21: solution 1", Due.MISSING, x, () -> x.solved(1, 0, 'f'));
        Due.thrown("21: solution -1", Due.MISSING, x, () -> x.solved(-1, 0, 'f'));
        Due.thrown("21: ply 1", Due.MISSING, x, () -> x.solved(0, 1, 'f'));
        Due.thrown("21: ply -1, ahead of no such thing", Due.MISSING, x, () -> x.solved(0, -1, 'x'));
        Due.thrown("21: no such thing", Due.ARGUMENT, x, () -> x.solved(0, 0, 'x'));
        Due.thrown("21: the greatest solution", Due.MISSING, x, () -> x.solved(Integer.MAX_VALUE, 0, 'f'));
        x.problem('h', 2, '#');
        Due.thrown("21: the greatest solution of rows", Due.MISSING, x, () -> x.solved(Integer.MAX_VALUE, 0, 'f'));
        Due.thrown("21: the least ply", Due.MISSING, x, () -> x.solved(0, Integer.MIN_VALUE, 'f'));
        x.board(5, 5);
        Due.thrown("21: no problem on a new board", Due.STATE, x, () -> x.solved(0, 0, 'f'));
    }

    private static void triesThrow() {
        Bench x = Due.bench(4, 4, 0, "Kc2 kd4 Rc3");
        Due.thrown("22: no problem", Due.STATE, x, () -> x.tries());
        Due.thrown("23: no problem", Due.STATE, x, () -> x.tried(-1, false));
        Due.thrown("24: no problem", Due.STATE, x, () -> x.duals(-1));
        for (char kind : "hz".toCharArray()) {
            for (int moves = 1; moves < 3; moves++) {
                x.problem(kind, moves, '#');
                Due.thrown("22: of " + kind, Due.UNSUPPORTED, x, () -> x.tries());
                Due.thrown("23: of " + kind, Due.UNSUPPORTED, x, () -> x.tried(-1, false));
                Due.thrown("24: of " + kind, Due.UNSUPPORTED, x, () -> x.duals(-1));
            }
        }
        x.problem('d', 2, '#');
        Due.thrown("23: try 6", Due.MISSING, x, () -> x.tried(6, false));
        Due.thrown("23: try -1", Due.MISSING, x, () -> x.tried(-1, true));
        Due.thrown("24: key 1", Due.MISSING, x, () -> x.duals(1));
        Due.thrown("24: key -1", Due.MISSING, x, () -> x.duals(-1));
        x.problem('d', 1, '#');
        Due.thrown("24: of one move", Due.UNSUPPORTED, x, () -> x.duals(0));
        Due.thrown("23: of one move", Due.MISSING, x, () -> x.tried(0, false));
        x.problem('s', 2, '#');
        Due.thrown("24: of s", Due.UNSUPPORTED, x, () -> x.duals(0));
    }

    private static void duals() {
        Due.same("24: none", 0, told(4, 4, "Kc2 kd4 Rc3", 'd', 2, '#').duals(0));
        Due.same("24: one", 1, told(3, 3, "Kc3 kb1 Pb2", 'd', 2, '#').duals(0));
        Bench x = told(3, 3, "ka1 Kc1 Qb3", 'd', 2, '#');
        String keys = Due.solutions(x, 1);
        for (int key = 0; key < 4; key++) {
            x.problem('d', 2, '#');
            int many = x.duals(key);
            String one = keys.split(" ")[key];
            x.problem('d', 1, '#');
            if (Due.solutions(x, 1).contains(one)) {
                Due.same("24: none behind a key that mates", 0, many);
            }
        }
    }
}
