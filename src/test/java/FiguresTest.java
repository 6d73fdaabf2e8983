/** Promises 37 to 40: figures. */
public final class FiguresTest {
    public static void main(String[] args) {
        checksum();
        mobility();
        meanPoints();
        isSound();
        manyCalls();
        Due.end("FiguresTest");
    }

    private static void checksum() {
        Bench x = new Bench();
        x.board(3, 3);
        Due.same("37: empty", sum("........."), x.checksum());
        Due.lay(x, 3, "Ka1 nc1 Pb2 qc3");
        Due.same("37: men of both sides", sum("K.n.P...q"), x.checksum());
        x.turn(1);
        Due.same("37: whoever moves", sum("K.n.P...q"), x.checksum());
        x.board(6, 6);
        Due.same("37: over the bounds of a long", sum(".".repeat(36)), x.checksum());
        Due.same("37: one cell's share", 7L * 31 + 46, sum("."));
    }

    private static long sum(String cells) {
        long sum = 7;
        for (char man : cells.toCharArray()) {
            sum = sum * 31 + man;
        }
        return sum;
    }

    private static void mobility() {
        Bench x = new Bench();
        Due.same("38: none", 0.0f, x.mobility());
        Due.lay(x, 5, "Ra1");
        Due.same("38: a rook", 8.0f / 25.0f, x.mobility());
        x.man('r', 0, 24);
        Due.same("38: two that go to two cells both", 14.0f / 25.0f, x.mobility());
        x.turn(1);
        Due.same("38: of the side that moves", 0.0f, x.mobility());
        Due.same("38: promotions to one cell", 1.0f / 9.0f, Due.bench(3, 3, 0, "Pb2").mobility());
        Due.same("38: lawful moves alone", 2.0f / 9.0f, Due.bench(3, 3, 0, "Ka1 rc1").mobility());
        Due.same("38: en passant", 2.0f / 36.0f, passed().mobility());
    }

    private static Bench passed() {
        Bench x = Due.bench(6, 6, 0, "Pb2 pc4 pc3");
        Due.go(x, 7, 19);
        return x;
    }

    private static void meanPoints() {
        Bench x = new Bench();
        Due.thrown("39: no entries", Due.MISSING, x, () -> x.meanPoints());
        x.enter(10, 5);
        Due.same("39: of one", 10.0, x.meanPoints());
        x.enter(15, 5);
        Due.same("39: of two", 12.5, x.meanPoints());
        x.enter(0, 6);
        Due.same("39: of three", 25.0 / 3.0, x.meanPoints());
        x.cook(0);
        Due.same("39: not the cooked one", 7.5, x.meanPoints());
        x.withdraw(5);
        Due.same("39: nor the ones withdrawn", 0.0, x.meanPoints());
        x.cook(2);
        Due.thrown("39: none in the award", Due.MISSING, x, () -> x.meanPoints());
    }

    private static void isSound() {
        Due.same("40: empty", true, new Bench().isSound());
        Bench x = Due.bench(5, 5, 1, "Pb4 pc4 ka4 Ke1 Qd1 Nc3");
        for (char kind : "dshz".toCharArray()) {
            x.problem(kind, 1, '=');
            String before = Due.print(x);
            Due.same("40: " + kind, true, x.isSound());
            Due.same("40: it changes nothing", before, Due.print(x));
        }
        Bench y = HistoryTest.proved();
        y.prove();
        y.problem('h', 2, '=');
        Due.same("40: proved", true, y.isSound());
        Due.same("40: and still so", true, Due.can(y, 17, 11));
    }

    /** The 512th call answers as the first ones do, moves being made and undone all along. */
    private static void manyCalls() {
        Retroboard x = new Retroboard();
        x.man('k', 0, 0);
        x.man('k', 1, 24);
        x.man('r', 0, 10);
        x.man('r', 1, 21);
        for (int i = 0; i < 253; i++) {
            x.make(0);
        }
        for (int i = 252; i >= 0; i--) {
            Due.same("12: many are left", i, x.undo());
        }
        Due.same("37: call 511, all is as at first", sum("K.........R..........r..k"), x.checksum());
        Due.same("38: call 512", 7.0f / 25.0f, x.mobility());
        Retroboard y = new Retroboard();
        y.man('k', 0, 0);
        y.man('k', 1, 24);
        for (int i = 0; i < 509; i++) {
            Due.same("11: call " + (i + 3), '.', y.make(0));
        }
        Due.same("12: call 512", 508, y.undo());
    }
}
