/** Promises 1 to 8: boards and men. */
public final class BoardsTest {
    public static void main(String[] args) {
        newObject();
        board();
        boardForgets();
        man();
        manForgets();
        lift();
        at();
        turn();
        condition();
        army();
        Due.end("BoardsTest");
    }

    private static void newObject() {
        Bench x = new Bench();
        for (int cell = 0; cell < 25; cell++) {
            Due.same("1: at(" + cell + ")", '.', x.at(cell));
        }
        Due.thrown("1: at(25)", Due.BOUNDS, x, () -> x.at(25));
        Due.same("1: moves", 0, x.moves());
        Due.same("1: games", "IllegalStateException", Due.outcome(() -> x.games(0)));
        Due.same("1: solutions", "IllegalStateException", Due.outcome(() -> x.solutions()));
        Due.same("1: undo", "NoSuchElementException", Due.outcome(() -> x.undo()));
        Due.same("1: award", "", Due.award(x));
        Due.same("1: condition m", false, x.condition('m', false));
        Due.same("1: condition g", false, x.condition('g', false));
        Due.same("1: condition p", false, x.condition('p', false));
        Due.same("1: white moves", 0, x.turn(0));
    }

    private static void board() {
        Bench x = new Bench();
        Due.same("2: 3 by 3", 9, x.board(3, 3));
        Due.same("2: 6 by 6", 36, x.board(6, 6));
        Due.same("2: 6 by 3", 18, x.board(6, 3));
        Due.same("2: its last cell", '.', x.at(17));
        Due.thrown("2: none behind it", Due.BOUNDS, x, () -> x.at(18));
        Due.same("2: 3 by 6", 18, x.board(3, 6));
        x.man('n', 0, 4);
        for (int[] size : new int[][] {{2, 5}, {7, 5}, {5, 2}, {5, 7}, {-1, -1}, {Integer.MAX_VALUE, 3}, {3, Integer.MIN_VALUE}}) {
            Due.thrown("2: board(" + size[0] + ", " + size[1] + ")", Due.ARGUMENT, x, () -> x.board(size[0], size[1]));
        }
        Due.same("2: a knight on b2 of 3 by 6", "Nb2-a4 Nb2-c4", Due.list(x));
        Due.same("2: a knight on b2 of 6 by 3", "Nb2-d1 Nb2-d3", Due.list(Due.bench(6, 3, 0, "Nb2")));
    }

    private static void boardForgets() {
        Bench x = Due.bench(5, 5, 0, "Ka1 ke5 Pb2");
        x.condition('m', true);
        x.condition('g', true);
        x.condition('p', true);
        x.army('q', 0, 7);
        x.problem('z', 3, '=');
        x.array();
        x.enter(5, 5);
        x.condition('g', false);
        Due.go(x, 6, 16);
        x.board(5, 5);
        Due.same("2: empty", 0, x.array());
        x.board(5, 5);
        Due.same("2: no array", "IllegalStateException", Due.outcome(() -> x.games(0)));
        Due.same("2: no problem", "IllegalStateException", Due.outcome(() -> x.solutions()));
        Due.same("2: the one before had no moves", 0, x.problem('d', 1, '#'));
        Due.same("2: nothing to undo", "NoSuchElementException", Due.outcome(() -> x.undo()));
        Due.same("2: white moves", 0, x.turn(1));
        Due.same("2: no m", false, x.condition('m', true));
        Due.same("2: no g", false, x.condition('g', true));
        Due.same("2: no p", false, x.condition('p', true));
        Due.same("2: the army stays", 7, x.army('q', 0, 1));
        Due.same("2: the entry stays", "0", Due.award(x));
        x.board(4, 4);
        Due.same("2: white moves again", 0, x.turn(0));
        Due.same("2: a king can stand again", 1, x.man('k', 0, 3));
    }

    private static void man() {
        Bench x = new Bench();
        Due.same("3: the first", 1, x.man('k', 0, 0));
        Due.same("3: the second", 2, x.man('k', 1, 24));
        Due.same("3: a pawn on the second row", 3, x.man('p', 0, 5));
        Due.same("3: a black one on the row before the last", 4, x.man('p', 1, 19));
        Due.same("3: white's letter", 'K', x.at(0));
        Due.same("3: black's letter", 'k', x.at(24));
        Due.thrown("3: cell -1", Due.BOUNDS, x, () -> x.man('q', 0, -1));
        Due.thrown("3: cell 25, ahead of a wrong kind", Due.BOUNDS, x, () -> x.man('?', 3, 25));
        Due.thrown("3: no such kind", Due.ARGUMENT, x, () -> x.man('x', 0, 1));
        Due.thrown("3: a capital letter", Due.ARGUMENT, x, () -> x.man('K', 0, 1));
        Due.thrown("3: a point is no kind", Due.ARGUMENT, x, () -> x.man('.', 0, 1));
        Due.thrown("3: a sign of 255", Due.ARGUMENT, x, () -> x.man((char) 255, 0, 1));
        Due.thrown("3: side 2", Due.ARGUMENT, x, () -> x.man('q', 2, 1));
        Due.thrown("3: side -1", Due.ARGUMENT, x, () -> x.man('q', -1, 1));
        Due.thrown("3: no such kind ahead of a taken cell", Due.ARGUMENT, x, () -> x.man('x', 0, 0));
        for (int side = 0; side < 2; side++) {
            int s = side;
            Due.thrown("3: a pawn on the first row", Due.ARGUMENT, x, () -> x.man('p', s, 4));
            Due.thrown("3: a pawn on the last row", Due.ARGUMENT, x, () -> x.man('p', s, 20));
            Due.thrown("3: a pawn there ahead of the taken cell", Due.ARGUMENT, x, () -> x.man('p', s, 24));
        }
        Due.thrown("3: a taken cell", Due.UNSUPPORTED, x, () -> x.man('q', 1, 0));
        Due.thrown("3: a second king", Due.UNSUPPORTED, x, () -> x.man('k', 0, 1));
        Due.thrown("3: a second king of black", Due.UNSUPPORTED, x, () -> x.man('k', 1, 1));
        for (char kind : "qrbnig".toCharArray()) {
            x.man(kind, 1, 10 + "qrbnig".indexOf(kind));
        }
        Due.thrown("3: an eleventh", Due.STATE, x, () -> x.man('c', 0, 1));
        Due.thrown("3: taken, ahead of an eleventh", Due.UNSUPPORTED, x, () -> x.man('c', 0, 10));
        Due.thrown("3: a second king, ahead of an eleventh", Due.UNSUPPORTED, x, () -> x.man('k', 0, 1));
        Due.thrown("3: no kind, ahead of an eleventh", Due.ARGUMENT, x, () -> x.man('d', 0, 1));
        x.lift(10);
        Due.same("3: the tenth", 10, x.man('c', 0, 1));
        Due.same("3: its letter", 'C', x.at(1));
        x.lift(0);
        Due.same("3: a king behind one lifted", 10, x.man('k', 0, 2));
        Bench low = Due.bench(3, 3, 0, "Pb2");
        Due.same("3: a pawn on the middle row of three", 'P', low.at(4));
        Due.thrown("3: but on no other one", Due.ARGUMENT, low, () -> low.man('p', 0, 6));
    }

    private static void manForgets() {
        Bench x = Due.bench(5, 5, 0, "Ka1 Pb2 pc4");
        Due.go(x, 0, 1);
        x.man('n', 1, 24);
        Due.same("3: nothing to undo", "NoSuchElementException", Due.outcome(() -> x.undo()));
        x.board(5, 5);
        Due.lay(x, 5, "Ka1 Pb2 pc4 ke5");
        Due.go(x, 6, 16);
        x.man('n', 1, 20);
        Due.same("3: what was made stays", true, Due.can(x, 17, 11));
        Bench y = HistoryTest.proved();
        y.prove();
        Due.same("3: proved", true, Due.can(y, 17, 11));
        y.man('n', 1, 24);
        Due.same("3: nothing is proved then", false, Due.can(y, 17, 11));
    }

    private static void lift() {
        Bench x = Due.bench(4, 4, 0, "Ka1 qd4 Pb2");
        Due.thrown("4: cell 16", Due.BOUNDS, x, () -> x.lift(16));
        Due.thrown("4: cell -1", Due.BOUNDS, x, () -> x.lift(-1));
        Due.thrown("4: a free cell", Due.MISSING, x, () -> x.lift(1));
        Due.same("4: white's king", 'K', x.lift(0));
        Due.thrown("4: it is gone", Due.MISSING, x, () -> x.lift(0));
        Due.same("4: black's queen", 'q', x.lift(15));
        Due.go(x, 5, 9);
        Due.same("4: white's pawn", 'P', x.lift(9));
        Due.same("4: nothing to undo", "NoSuchElementException", Due.outcome(() -> x.undo()));
        Due.same("4: an empty board", 0, x.array());
        Bench y = HistoryTest.proved();
        y.army('n', 1, 1);
        y.man('n', 1, 24);
        y.prove();
        y.lift(24);
        Due.same("4: nothing is proved then", false, Due.can(y, 17, 11));
        Bench z = Due.bench(5, 5, 0, "Pb2 pc4 Qe1");
        Due.go(z, 6, 16);
        z.lift(4);
        Due.same("4: what was made stays", true, Due.can(z, 17, 11));
        z.lift(16);
        Due.same("4: but not without the pawn", false, Due.can(z, 17, 11));
    }

    private static void at() {
        Bench x = Due.bench(6, 6, 0, "Ka1 Qb1 Rc1 Bd1 Ne1 kf6 ie6 gd6 cc6 pb5");
        StringBuilder got = new StringBuilder();
        for (int cell = 0; cell < 36; cell++) {
            got.append(x.at(cell));
        }
        Due.same("5: all cells", "KQRBN" + ".".repeat(20) + "p" + ".".repeat(6) + "cgik", got.toString());
        Due.thrown("5: cell 36", Due.BOUNDS, x, () -> x.at(36));
        Due.thrown("5: cell -1", Due.BOUNDS, x, () -> x.at(-1));
        Due.thrown("5: the least cell", Due.BOUNDS, x, () -> x.at(Integer.MIN_VALUE));
    }

    private static void turn() {
        Bench x = Due.bench(5, 5, 0, "Ka1 ke5");
        Due.same("6: white before", 0, x.turn(1));
        Due.same("6: black before", 1, x.turn(1));
        Due.same("6: black moves", "Ke5-d4 Ke5-e4 Ke5-d5", Due.list(x));
        Due.thrown("6: side 2", Due.ARGUMENT, x, () -> x.turn(2));
        Due.thrown("6: side -1", Due.ARGUMENT, x, () -> x.turn(-1));
        Due.same("6: still black", 1, x.turn(0));
        Bench y = HistoryTest.proved();
        y.prove();
        y.turn(1);
        Due.same("6: nothing is proved then, of the same side either", false, Due.can(y, 17, 11));
    }

    private static void condition() {
        Bench x = Due.bench(5, 5, 0, "Ra1 ra5");
        for (char letter : "mgp".toCharArray()) {
            Due.same("7: " + letter + " did not hold", false, x.condition(letter, true));
            Due.same("7: " + letter + " held", true, x.condition(letter, true));
            Due.same("7: " + letter + " held still", true, x.condition(letter, false));
            Due.same("7: " + letter + " held no more", false, x.condition(letter, false));
        }
        Due.thrown("7: k", Due.ARGUMENT, x, () -> x.condition('k', true));
        Due.thrown("7: M", Due.ARGUMENT, x, () -> x.condition('M', true));
        x.condition('m', true);
        Due.same("7: m binds both rooks", 0, x.moves());
        x.condition('m', false);
        x.condition('g', true);
        Due.same("7: g", "Ra1-c1 Ra1-d1 Ra1-e1 Ra1-a3 Ra1-a4 Ra1xa5", Due.list(x));
        x.condition('p', true);
        Due.same("7: g and p", "Ra1-c1 Ra1-d1 Ra1-e1 Ra1-a3 Ra1-a4", Due.list(x));
    }

    private static void army() {
        Bench x = new Bench();
        String kinds = "kqrbnigcp";
        int[] first = {1, 1, 2, 2, 2, 0, 0, 0, 6};
        for (int i = 0; i < 9; i++) {
            Due.same("8: white's " + kinds.charAt(i), first[i], x.army(kinds.charAt(i), 0, i));
            Due.same("8: black's " + kinds.charAt(i), first[i], x.army(kinds.charAt(i), 1, 9 - i));
        }
        for (int i = 0; i < 9; i++) {
            Due.same("8: white's " + kinds.charAt(i) + " then", i, x.army(kinds.charAt(i), 0, first[i]));
            Due.same("8: black's " + kinds.charAt(i) + " then", 9 - i, x.army(kinds.charAt(i), 1, first[i]));
        }
        Due.thrown("8: no such kind", Due.ARGUMENT, x, () -> x.army('x', 0, 1));
        Due.thrown("8: a point", Due.ARGUMENT, x, () -> x.army('.', 0, 1));
        Due.thrown("8: side 2", Due.ARGUMENT, x, () -> x.army('q', 2, 1));
        Due.thrown("8: side -1", Due.ARGUMENT, x, () -> x.army('q', -1, 1));
        Due.thrown("8: -1 men", Due.ARGUMENT, x, () -> x.army('q', 0, -1));
        Due.thrown("8: 10 men", Due.ARGUMENT, x, () -> x.army('q', 0, 10));
        Due.same("8: nothing of it", 1, x.army('q', 0, 0));
        Due.same("8: 0 men", 0, x.army('q', 0, 9));
        Due.same("8: 9 men", 9, x.army('q', 0, 1));
    }
}
