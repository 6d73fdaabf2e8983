/** Promises 31 to 36: tourneys. */
public final class TourneyTest {
    public static void main(String[] args) {
        enter();
        cook();
        like();
        anticipated();
        award();
        withdraw();
        Due.end("TourneyTest");
    }

    private static void enter() {
        Bench x = Due.bench(5, 5, 0, "Ka1 ke5");
        Due.thrown("31: -1 points", Due.ARGUMENT, x, () -> x.enter(-1, 0));
        Due.thrown("31: 101 points", Due.ARGUMENT, x, () -> x.enter(101, 0));
        Due.thrown("31: the year -1", Due.ARGUMENT, x, () -> x.enter(0, -1));
        Due.thrown("31: the year 100", Due.ARGUMENT, x, () -> x.enter(0, 100));
        for (int i = 0; i < 12; i++) {
            Due.same("31: entry " + i, i, x.enter(i % 2 * 100, i % 3 * 49 + i % 3 / 2));
        }
        Due.thrown("31: a thirteenth", Due.STATE, x, () -> x.enter(5, 5));
        Due.thrown("31: no such points, ahead of a thirteenth", Due.ARGUMENT, x, () -> x.enter(101, 5));
        x.cook(3);
        x.withdraw(0);
        Due.thrown("31: still", Due.STATE, x, () -> x.enter(5, 5));
        Due.same("31: what is entered stays as it was", 2, x.like(0, 11));
        x.lift(0);
        Due.same("31: also then", 2, x.like(0, 11));
    }

    private static void cook() {
        Bench x = new Bench();
        Due.thrown("32: none", Due.BOUNDS, x, () -> x.cook(0));
        x.enter(10, 10);
        x.enter(20, 10);
        Due.same("32: it was not", true, x.cook(0));
        Due.same("32: it was", false, x.cook(0));
        Due.same("32: the other is in the award", "1", Due.award(x));
        Due.same("32: it was not cooked, either", true, x.cook(1));
        Due.same("32: none is", "", Due.award(x));
        Due.thrown("32: entry 2", Due.BOUNDS, x, () -> x.cook(2));
        Due.thrown("32: entry -1", Due.BOUNDS, x, () -> x.cook(-1));
        x.board(4, 4);
        Due.same("32: also on a new board", false, x.cook(1));
        x.enter(5, 5);
        x.withdraw(5);
        Due.same("32: one that is withdrawn", true, x.cook(2));
    }

    private static void like() {
        Bench x = Due.bench(4, 4, 0, "Ka1 kd4 Qb2 nc3");
        x.enter(1, 1);
        x.lift(10);
        x.man('n', 0, 10);
        x.enter(1, 2);
        x.lift(5);
        x.man('r', 0, 5);
        x.turn(1);
        x.enter(1, 3);
        x.board(4, 5);
        Due.lay(x, 4, "Ka1 kd4 Qb2 nc3");
        x.enter(1, 4);
        x.board(5, 4);
        x.enter(1, 5);
        Due.same("33: the same", 4, x.like(0, 0));
        Due.same("33: but for one side", 3, x.like(0, 1));
        Due.same("33: and the other way about", 3, x.like(1, 0));
        Due.same("33: but for a kind", 3, x.like(1, 2));
        Due.same("33: but for both", 2, x.like(0, 2));
        Due.same("33: on boards of other sizes", 0, x.like(0, 3));
        Due.same("33: without men", 0, x.like(4, 4));
        Due.same("33: of the same number of cells", 0, x.like(3, 4));
        Due.thrown("33: entry 5", Due.BOUNDS, x, () -> x.like(5, 0));
        Due.thrown("33: the other 5", Due.BOUNDS, x, () -> x.like(0, 5));
        Due.thrown("33: entry -1", Due.BOUNDS, x, () -> x.like(-1, 0));
        Due.thrown("33: the other -1", Due.BOUNDS, x, () -> x.like(0, -1));
        Bench y = new Bench();
        y.board(4, 5);
        Due.lay(y, 4, "Ka1");
        y.enter(1, 1);
        y.board(5, 4);
        Due.lay(y, 5, "Ka1");
        y.enter(1, 1);
        Due.same("33: 4 by 5 and 5 by 4", 0, y.like(0, 1));
    }

    private static void anticipated() {
        Bench x = Due.bench(4, 4, 0, "Ka1 kd4 Qb2 nc3");
        x.enter(50, 10);
        x.enter(50, 9);
        x.lift(10);
        x.enter(50, 7);
        x.enter(50, 7);
        x.lift(5);
        x.enter(50, 5);
        Due.same("34: by the earliest", 4, x.anticipated(0, 1));
        Due.same("34: with two men", 4, x.anticipated(0, 2));
        Due.same("34: with three, the lower number", 2, x.anticipated(0, 3));
        Due.same("34: with four", 1, x.anticipated(0, 4));
        Due.thrown("34: with five", Due.MISSING, x, () -> x.anticipated(0, 5));
        Due.thrown("34: none of the same year", Due.MISSING, x, () -> x.anticipated(2, 3));
        Due.thrown("34: none earlier", Due.MISSING, x, () -> x.anticipated(4, 1));
        x.cook(4);
        x.withdraw(7);
        Due.same("34: cooked or not", 4, x.anticipated(0, 2));
        Due.same("34: in the award or not", 2, x.anticipated(0, 3));
        Due.thrown("34: entry 5, ahead of no such number", Due.BOUNDS, x, () -> x.anticipated(5, 0));
        Due.thrown("34: entry -1", Due.BOUNDS, x, () -> x.anticipated(-1, 1));
        Due.thrown("34: 0 men", Due.ARGUMENT, x, () -> x.anticipated(0, 0));
        Due.thrown("34: 11 men, ahead of none", Due.ARGUMENT, x, () -> x.anticipated(4, 11));
        Due.thrown("34: 10 men", Due.MISSING, x, () -> x.anticipated(0, 10));
    }

    private static void award() {
        Bench x = new Bench();
        Due.thrown("35: none", Due.MISSING, x, () -> x.award(0));
        int[][] entries = {{50, 8}, {60, 9}, {50, 7}, {60, 9}, {50, 8}, {0, 0}, {100, 99}};
        for (int[] entry : entries) {
            x.enter(entry[0], entry[1]);
        }
        Due.same("35: by points, years, numbers", "6 1 3 2 0 4 5", Due.award(x));
        Due.thrown("35: place 7", Due.MISSING, x, () -> x.award(7));
        Due.thrown("35: place -1", Due.MISSING, x, () -> x.award(-1));
        x.cook(3);
        Due.same("35: not the cooked one", "6 1 2 0 4 5", Due.award(x));
        Due.thrown("35: place 6", Due.MISSING, x, () -> x.award(6));
        x.board(3, 3);
        Due.same("35: on a new board", 6, x.award(0));
    }

    private static void withdraw() {
        Bench x = new Bench();
        Due.same("36: none", 0, x.withdraw(5));
        x.enter(10, 5);
        x.enter(20, 5);
        x.enter(30, 6);
        x.enter(40, 5);
        x.cook(1);
        Due.same("36: but for the cooked one", 2, x.withdraw(5));
        Due.same("36: the award", "2", Due.award(x));
        Due.same("36: none of them now", 0, x.withdraw(5));
        x.enter(50, 5);
        Due.same("36: a later one is in it", "4 2", Due.award(x));
        Due.same("36: until it is taken out", 1, x.withdraw(5));
        Due.same("36: of the year 0", 0, x.withdraw(0));
        Due.same("36: of the year 99", 0, x.withdraw(99));
        Due.thrown("36: the year -1", Due.ARGUMENT, x, () -> x.withdraw(-1));
        Due.thrown("36: the year 100", Due.ARGUMENT, x, () -> x.withdraw(100));
        Due.same("36: the award at last", "2", Due.award(x));
    }
}
