/** Sentences under Tourneys, Exceptions and What it is, and of the promises 31 to 40. */
final class EdgesOfTourneys {
    private EdgesOfTourneys() {
    }

    static void run() {
        Page.open("Tourneys");
        entries();
        likeness();
        anticipation();
        awards();
        Page.open("Exceptions");
        nothingChanged();
        firstListed();
        Page.open("What it is");
        calls();
        promiseEnter();
        promiseCook();
        promiseLike();
        promiseAnticipated();
        promiseAward();
        promiseWithdraw();
        promiseChecksum();
        promiseMobility();
        promiseMeanPoints();
        promiseIsSound();
    }

    private static Bench entered(int... pointsAndYears) {
        Bench x = Due.bench(4, 4, 0, "Ka1 kd4");
        for (int i = 0; i + 1 < pointsAndYears.length; i += 2) {
            x.enter(pointsAndYears[i], pointsAndYears[i + 1]);
        }
        return x;
    }

    private static void entries() {
        Page.says("At most 12 entries are numbered from 0,");
        Bench x = Due.bench(4, 4, 0, "Ka1 kd4");
        for (int i = 0; i < 12; i++) {
            Due.same("entry " + i, i, x.enter(i, i));
        }
        Due.thrown("a thirteenth", Due.STATE, x, () -> x.enter(0, 0));
        x.board(3, 3);
        Due.thrown("on another board, too", Due.STATE, x, () -> x.enter(0, 0));
        Page.says("each a position with points, 0 to 100, and a year, 0 to 99.");
        Due.same("the least points", 0, new Bench().enter(0, 50));
        Due.same("the most points", 0, new Bench().enter(100, 50));
        Due.same("the first year", 0, new Bench().enter(50, 0));
        Due.same("the last year", 0, new Bench().enter(50, 99));
        Bench y = entered(1, 1);
        for (int[] bad : new int[][] {{-1, 0}, {101, 0}, {0, -1}, {0, 100}}) {
            Due.thrown("points " + bad[0] + ", year " + bad[1], Due.ARGUMENT, y, () -> y.enter(bad[0], bad[1]));
        }
        y.lift(0);
        Due.same("the entry stays as it was", 2, y.like(0, 0));
        y.enter(2, 2);
        Due.same("the next one is as the board is", 1, y.like(1, 1));
    }

    private static void likeness() {
        Page.says("Two are as like as they have men of the same kind and side on the same cells of boards of the same size.");
        String[] men = {"Ka1 kd3 Qb2 nc2", "Ka1 kd3 Qb2 nc2", "Ka1 kd3 Qb2 Nc2", "Ka1 kd3 Rb2 nc2", "Ka1 kd3 Qb3 nc2", "ka1 Kd3 qb2 Nc2", "", "Ka1"};
        int[] due = {4, 4, 3, 3, 3, 0, 0, 1};
        Bench x = new Bench();
        for (String some : men) {
            x.board(4, 3);
            Due.lay(x, 4, some);
            x.enter(1, 1);
        }
        x.board(3, 4);
        Due.lay(x, 3, "Ka1");
        x.enter(1, 1);
        x.board(5, 3);
        Due.lay(x, 5, "Ka1");
        x.enter(1, 1);
        x.board(4, 4);
        Due.lay(x, 4, "Ka1 kd3 Qb2 nc2");
        x.turn(1);
        x.enter(1, 1);
        x.condition('m', true);
        x.turn(0);
        x.enter(9, 9);
        for (int i = 0; i < men.length; i++) {
            Due.same("with " + men[i], due[i], x.like(0, i));
            Due.same("the other way about", due[i], x.like(i, 0));
        }
        Due.same("boards of as many cells, turned", 0, x.like(7, 8));
        Due.same("a board of one column more", 0, x.like(7, 9));
        Due.same("a board of one row more", 0, x.like(0, 10));
        Due.same("whoever moves, whatever holds", 4, x.like(10, 11));
        Due.same("no men", 0, x.like(6, 6));
    }

    private static void anticipation() {
        Page.says("An entry is anticipated by one, cooked or not, in the award or not,");
        Bench x = entered(5, 5, 5, 3);
        Due.same("an earlier one", 1, x.anticipated(0, 2));
        x.cook(1);
        Due.same("cooked", 1, x.anticipated(0, 2));
        x.withdraw(3);
        Due.same("not in the award", 1, x.anticipated(0, 2));
        x.cook(0);
        x.withdraw(5);
        Due.same("itself cooked and not in the award", 1, x.anticipated(0, 2));
        Page.says("of an earlier year");
        Due.same("by one year", 1, entered(5, 1, 5, 0).anticipated(0, 1));
        Bench same = entered(5, 5, 5, 5);
        Due.thrown("not of the same year", Due.MISSING, same, () -> same.anticipated(1, 1));
        Bench later = entered(5, 5, 5, 6);
        Due.thrown("not of a later one", Due.MISSING, later, () -> later.anticipated(0, 1));
        Due.same("entered earlier or not", 0, later.anticipated(1, 1));
        Page.says("that is at least as like to it as a told number.");
        Bench like = Due.bench(4, 3, 0, "Ka1 kd3 Qb2 nc2");
        like.enter(1, 9);
        like.lift(6);
        like.enter(1, 5);
        Due.same("less men than it has in common", 1, like.anticipated(0, 2));
        Due.same("as many", 1, like.anticipated(0, 3));
        Due.thrown("more", Due.MISSING, like, () -> like.anticipated(0, 4));
    }

    private static void awards() {
        Page.says("The award has all entries that are not cooked,");
        Bench x = entered(5, 5, 5, 5, 5, 5);
        Due.same("all", "0 1 2", Due.award(x));
        x.cook(1);
        Due.same("but the cooked one", "0 2", Due.award(x));
        Page.says("those with more points first,");
        Due.same("by points", "3 1 2 0", Due.award(entered(0, 1, 99, 3, 1, 0, 100, 99)));
        Page.says("of several the earlier year,");
        Due.same("by years", "2 1 0 3", Due.award(entered(7, 50, 7, 49, 7, 0, 7, 99)));
        Page.says("then the lower number.");
        Due.same("by numbers", "0 1 2 3 4 5 6 7 8 9 10 11", Due.award(entered(7, 7, 7, 7, 7, 7, 7, 7, 7, 7, 7, 7, 7, 7, 7, 7, 7, 7, 7, 7, 7, 7, 7, 7)));
        Due.same("by all three", "2 4 1 3 0", Due.award(entered(5, 9, 6, 8, 6, 7, 6, 8, 6, 7)));
    }

    /** A board in the midst of all: moves made, a pawn to be captured en passant, an array, a problem, entries. */
    private static Bench rich() {
        Bench x = Due.bench(5, 5, 0, "Ka1 ke5 Pb2 pc4 Re1 Pd4");
        x.condition('p', true);
        x.army('g', 0, 3);
        x.problem('d', 2, '#');
        x.array();
        x.enter(10, 10);
        x.enter(20, 9);
        x.enter(20, 9);
        x.cook(2);
        Due.go(x, 4, 3);
        Due.go(x, 24, 23);
        x.condition('p', false);
        Due.go(x, 6, 16);
        return x;
    }

    private static void nothingChanged() {
        Page.says("A method that throws an exception changes nothing.");
        for (Bench x : new Bench[] {rich(), EdgesOfHistory.proved(0), EdgesOfHistory.provedForWhite()}) {
            boardsThrow(x);
            movesThrow(x);
            othersThrow(x);
        }
        Bench passing = rich();
        Due.same("en passant", true, Due.can(passing, 17, 11));
        for (Bench x : new Bench[] {rich(), EdgesOfHistory.proved(0), EdgesOfHistory.provedForWhite()}) {
            for (String problem : new String[] {"d2=", "s2#", "h2=", "z3#"}) {
                x.problem(problem.charAt(0), problem.charAt(1) - '0', problem.charAt(2));
                Due.same("nor do questions", Due.print(x), Due.print(x, () -> askAll(x)));
            }
        }
    }

    private static void boardsThrow(Bench x) {
        Due.thrown("board", Due.ARGUMENT, x, () -> x.board(2, 5));
        Due.thrown("board", Due.ARGUMENT, x, () -> x.board(5, 7));
        Due.thrown("man", Due.BOUNDS, x, () -> x.man('q', 0, 25));
        Due.thrown("man", Due.ARGUMENT, x, () -> x.man('x', 0, 13));
        Due.thrown("man", Due.ARGUMENT, x, () -> x.man('p', 0, 2));
        int taken = takenCell(x);
        Due.thrown("man", Due.UNSUPPORTED, x, () -> x.man('q', 0, taken));
        Due.thrown("lift", Due.BOUNDS, x, () -> x.lift(25));
        Due.thrown("lift", Due.MISSING, x, () -> x.lift(13));
        Due.thrown("at", Due.BOUNDS, x, () -> x.at(25));
        Due.thrown("turn", Due.ARGUMENT, x, () -> x.turn(2));
        Due.thrown("condition", Due.ARGUMENT, x, () -> x.condition('x', true));
        Due.thrown("army", Due.ARGUMENT, x, () -> x.army('x', 0, 0));
        Due.thrown("army", Due.ARGUMENT, x, () -> x.army('q', 0, 10));
    }

    private static int takenCell(Bench x) {
        int cell = 0;
        while (x.at(cell) == '.') {
            cell++;
        }
        return cell;
    }

    private static void movesThrow(Bench x) {
        int many = x.moves();
        Due.thrown("moveAt", Due.MISSING, x, () -> x.moveAt(many, 'f'));
        Due.thrown("moveAt", Due.ARGUMENT, x, () -> x.moveAt(0, 'y'));
        Due.thrown("make", Due.MISSING, x, () -> x.make(many));
        Due.thrown("make", Due.MISSING, x, () -> x.make(-1));
        Due.thrown("isCheck", Due.ARGUMENT, x, () -> x.isCheck(2));
        Due.thrown("isAim", Due.ARGUMENT, x, () -> x.isAim('+'));
        Due.thrown("reach", Due.BOUNDS, x, () -> x.reach(25, true));
        Due.thrown("reach", Due.MISSING, x, () -> x.reach(13, true));
        Due.thrown("told", Due.MISSING, x, () -> x.told(many, 0));
        Due.thrown("told", Due.ARGUMENT, x, () -> x.told(0, 2));
        Due.thrown("sign", Due.MISSING, x, () -> x.sign(many, 0, 0));
        Due.thrown("sign", Due.ARGUMENT, x, () -> x.sign(0, 2, 0));
        Due.thrown("sign", Due.BOUNDS, x, () -> x.sign(0, 0, 12));
        Due.thrown("problem", Due.ARGUMENT, x, () -> x.problem('d', 3, '#'));
        Due.thrown("lastAt", Due.MISSING, x, () -> x.lastAt(-1, 'f'));
        Due.thrown("games", Due.ARGUMENT, x, () -> x.games(5));
    }

    private static void othersThrow(Bench x) {
        Due.thrown("enter", Due.ARGUMENT, x, () -> x.enter(101, 1));
        Due.thrown("enter", Due.ARGUMENT, x, () -> x.enter(1, 100));
        Due.thrown("cook", Due.BOUNDS, x, () -> x.cook(3));
        Due.thrown("like", Due.BOUNDS, x, () -> x.like(0, 3));
        Due.thrown("anticipated", Due.BOUNDS, x, () -> x.anticipated(3, 1));
        Due.thrown("award", Due.MISSING, x, () -> x.award(12));
        Due.thrown("withdraw", Due.ARGUMENT, x, () -> x.withdraw(100));
        Bench none = x.twin();
        none.board(5, 5);
        Due.thrown("solutions", Due.STATE, none, () -> none.solutions());
        Due.thrown("prove", Due.MISSING, none, () -> none.prove());
        Due.thrown("undo", Due.MISSING, none, () -> none.undo());
        Due.thrown("games", Due.STATE, none, () -> none.games(1));
    }

    /** Each question that the face has. */
    private static void askAll(Bench x) {
        int many = x.moves();
        for (int i = 0; i < Math.min(many, 8); i++) {
            x.moveAt(i, 't');
            x.told(i, 0);
            x.sign(i, 1, 2);
        }
        x.isCheck(0);
        x.isAim('=');
        x.isPure();
        x.at(0);
        Due.outcome(() -> x.reach(16, true));
        Due.outcome(() -> x.solutions());
        Due.outcome(() -> x.solved(0, 0, 't'));
        Due.outcome(() -> x.tries());
        Due.outcome(() -> x.tried(0, true));
        Due.outcome(() -> x.duals(0));
        x.isPossible();
        x.lasts();
        Due.outcome(() -> x.lastAt(0, 'k'));
        Due.outcome(() -> x.games(2));
        Due.outcome(() -> x.like(0, 1));
        Due.outcome(() -> x.anticipated(0, 1));
        Due.outcome(() -> x.award(0));
        Due.outcome(() -> x.meanPoints());
        x.checksum();
        x.mobility();
        x.isSound();
    }

    private static void firstListed() {
        Page.says("If several exceptions apply, the one that is listed first is thrown.");
        Bench full = Edges.empty(4, 3);
        for (int i = 0; i < 10; i++) {
            full.man(i == 0 ? 'k' : 'n', 0, i);
        }
        Due.thrown("man, no cell", Due.BOUNDS, full, () -> full.man('x', 2, 12));
        Due.thrown("man, no kind", Due.ARGUMENT, full, () -> full.man('x', 0, 0));
        Due.thrown("man, no side", Due.ARGUMENT, full, () -> full.man('k', 2, 0));
        Due.thrown("man, a pawn's row", Due.ARGUMENT, full, () -> full.man('p', 0, 0));
        Due.thrown("man, taken", Due.UNSUPPORTED, full, () -> full.man('n', 0, 0));
        Due.thrown("man, a second king", Due.UNSUPPORTED, full, () -> full.man('k', 0, 11));
        Due.thrown("man, ten", Due.STATE, full, () -> full.man('n', 0, 11));
        Bench none = new Bench();
        Due.thrown("lift", Due.BOUNDS, none, () -> none.lift(25));
        Due.thrown("moveAt", Due.MISSING, none, () -> none.moveAt(0, 'y'));
        Due.thrown("reach", Due.BOUNDS, none, () -> none.reach(25, true));
        Due.thrown("told", Due.MISSING, none, () -> none.told(0, 2));
        Due.thrown("sign", Due.MISSING, none, () -> none.sign(0, 2, -1));
        Due.thrown("solved", Due.STATE, none, () -> none.solved(0, 0, 'y'));
        Due.thrown("tried", Due.STATE, none, () -> none.tried(0, true));
        Due.thrown("duals", Due.STATE, none, () -> none.duals(0));
        Due.thrown("lastAt", Due.MISSING, none, () -> none.lastAt(0, 'y'));
        Due.thrown("games", Due.ARGUMENT, none, () -> none.games(5));
        Due.thrown("anticipated", Due.BOUNDS, none, () -> none.anticipated(0, 0));
        Bench x = Due.bench(3, 3, 0, "Ka1");
        Due.thrown("sign, no tongue", Due.ARGUMENT, x, () -> x.sign(0, 2, -1));
        x.problem('d', 2, '#');
        Due.thrown("solved, no such solution", Due.MISSING, x, () -> x.solved(0, 0, 'y'));
        Bench twelve = entered(1, 1, 1, 1, 1, 1, 1, 1, 1, 1, 1, 1, 1, 1, 1, 1, 1, 1, 1, 1, 1, 1, 1, 1);
        Due.thrown("enter", Due.ARGUMENT, twelve, () -> twelve.enter(101, 1));
        Due.thrown("enter", Due.ARGUMENT, twelve, () -> twelve.enter(1, -1));
        Due.thrown("anticipated, out of range", Due.ARGUMENT, twelve, () -> twelve.anticipated(0, 11));
    }

    private static void calls() {
        Page.says("An object is used for at most 512 calls after it has been made; what later calls answer is free.");
        Retroboard x = new Retroboard();
        x.man('k', 0, 0);
        x.man('k', 1, 24);
        for (int call = 3; call < 512; call++) {
            Due.same("call " + call, '.', x.make(0));
        }
        Due.same("call 512", 508, x.undo());
        Retroboard y = new Retroboard();
        for (int call = 1; call < 512; call++) {
            Due.same("call " + call, 25, y.board(5, 5));
        }
        Due.same("call 512", 1, y.man('q', 0, 7));
        Retroboard z = new Retroboard();
        z.man('k', 0, 0);
        for (int call = 2; call < 512; call += 2) {
            Due.same("call " + call, '.', z.make(0));
            Due.same("call " + (call + 1), 0, z.undo());
        }
        Due.same("call 512", 'K', z.at(0));
    }

    private static void promiseEnter() {
        Page.open("Promise 31");
        Page.says("Enters the position.");
        Bench x = Due.bench(4, 4, 0, "Ka1 kd4");
        x.enter(5, 5);
        x.man('q', 0, 7);
        Due.same("as it was", 2, x.like(0, 0));
        Page.says("- `points`: the points, 0 to 100");
        Page.says("- `year`: the year, 0 to 99");
        Page.says("Returns its number.");
        Due.same("the second", 1, x.enter(0, 0));
        Due.same("the third", 2, x.enter(100, 99));
        x.cook(0);
        x.withdraw(0);
        Due.same("cooked ones and others keep their numbers", 3, x.enter(1, 1));
        Page.says("Throws `IllegalArgumentException` if a number is out of range");
        for (int bad : new int[] {-1, 101, 256, 65536, Integer.MIN_VALUE, Integer.MAX_VALUE}) {
            Due.thrown("points " + bad, Due.ARGUMENT, x, () -> x.enter(bad, 5));
        }
        for (int bad : new int[] {-1, 100, 101, 256, 65536, Integer.MIN_VALUE, Integer.MAX_VALUE}) {
            Due.thrown("year " + bad, Due.ARGUMENT, x, () -> x.enter(5, bad));
            Due.thrown("both " + bad, Due.ARGUMENT, x, () -> x.enter(-1, bad));
        }
        Page.says("Throws `IllegalStateException` if there are 12");
        for (int i = 4; i < 12; i++) {
            Due.same("entry " + i, i, x.enter(i, i));
        }
        Due.thrown("a thirteenth", Due.STATE, x, () -> x.enter(100, 99));
        Due.thrown("and again", Due.STATE, x, () -> x.enter(0, 0));
        Due.thrown("out of range first", Due.ARGUMENT, x, () -> x.enter(101, 0));
    }

    private static void promiseCook() {
        Page.open("Promise 32");
        Page.says("Tells that an entry is cooked.");
        Bench x = entered(1, 1, 2, 2, 3, 3);
        x.cook(2);
        Due.same("it is not in the award", "1 0", Due.award(x));
        Page.says("- `entry`: the number of the entry");
        Page.says("Returns whether it was not.");
        Due.same("cooked again", false, x.cook(2));
        Due.same("the first", true, x.cook(0));
        Due.same("the first again", false, x.cook(0));
        x.withdraw(2);
        Due.same("one that is out of the award", true, x.cook(1));
        Due.same("and again", false, x.cook(1));
        Page.says("Throws `IndexOutOfBoundsException` if there is no such entry");
        for (int entry : Edges.badIndexes(3)) {
            Due.thrown("entry " + entry, Due.BOUNDS, x, () -> x.cook(entry));
        }
        Bench none = new Bench();
        Due.thrown("no entry", Due.BOUNDS, none, () -> none.cook(0));
    }

    private static void promiseLike() {
        Page.open("Promise 33");
        Page.says("Returns how like two entries are.");
        Page.says("- `entry`: the number of the entry");
        Page.says("- `other`: another one, or the same");
        Page.says("Returns the number of men.");
        Bench x = Edges.empty(6, 6);
        for (int i = 0; i <= 10; i++) {
            x.enter(1, 1);
            if (i < 10) {
                x.man('n', i % 2, i == 9 ? 35 : i);
            }
        }
        for (int i = 0; i <= 10; i++) {
            for (int k = 0; k <= 10; k++) {
                Due.same("men of " + i + " and " + k, Math.min(i, k), x.like(i, k));
            }
        }
        Page.says("Throws `IndexOutOfBoundsException` if there is no such entry, for either");
        for (int entry : Edges.badIndexes(11)) {
            Due.thrown("entry " + entry, Due.BOUNDS, x, () -> x.like(entry, 0));
            Due.thrown("other " + entry, Due.BOUNDS, x, () -> x.like(10, entry));
            Due.thrown("both " + entry, Due.BOUNDS, x, () -> x.like(entry, entry));
        }
        Bench none = new Bench();
        Due.thrown("no entry", Due.BOUNDS, none, () -> none.like(0, 0));
    }

    private static void promiseAnticipated() {
        Page.open("Promise 34");
        Page.says("Returns by which entry one is anticipated.");
        Page.says("- `entry`: the number of the entry");
        Page.says("- `least`: the number, 1 to 10");
        Bench x = Edges.empty(6, 6);
        x.enter(1, 0);
        for (int i = 0; i < 10; i++) {
            x.man('n', i % 2, i);
            x.enter(1, 20 - i);
        }
        x.withdraw(20);
        Bench last = Edges.empty(6, 6);
        for (int i = 0; i < 10; i++) {
            last.man('n', i % 2, i);
        }
        last.enter(1, 1);
        last.enter(1, 2);
        for (int least = 1; least <= 10; least++) {
            Due.same("ten men, at least " + least, 0, last.anticipated(1, least));
            if (least > 1) {
                int many = least;
                Due.thrown("one man, at least " + many, Due.MISSING, x, () -> x.anticipated(1, many));
            }
        }
        Due.same("one man, at least one", 10, x.anticipated(1, 1));
        Page.says("Returns the one of the earliest year, of several the lowest number.");
        Due.same("the earliest year", 2, entered(1, 9, 1, 5, 1, 4, 1, 8).anticipated(0, 2));
        Due.same("the lowest number", 1, entered(1, 9, 1, 4, 1, 5, 1, 4).anticipated(0, 2));
        Due.same("the lowest number, 0", 0, entered(1, 4, 1, 4, 1, 4, 1, 9).anticipated(3, 2));
        Page.says("Throws `IndexOutOfBoundsException` if there is no such entry");
        for (int entry : Edges.badIndexes(11)) {
            Due.thrown("entry " + entry, Due.BOUNDS, x, () -> x.anticipated(entry, 1));
            Due.thrown("ahead of the number", Due.BOUNDS, x, () -> x.anticipated(entry, 0));
        }
        Page.says("Throws `IllegalArgumentException` if the number is out of range");
        for (int least : new int[] {0, -1, 11, 256 + 1, 65536 + 1, Integer.MIN_VALUE, Integer.MAX_VALUE}) {
            Due.thrown("least " + least, Due.ARGUMENT, x, () -> x.anticipated(1, least));
            Due.thrown("ahead of none", Due.ARGUMENT, x, () -> x.anticipated(0, least));
        }
        Page.says("Throws `NoSuchElementException` if there is none");
        Due.thrown("none earlier", Due.MISSING, x, () -> x.anticipated(0, 1));
        Bench one = entered(1, 1);
        Due.thrown("not by itself", Due.MISSING, one, () -> one.anticipated(0, 1));
    }

    private static void promiseAward() {
        Page.open("Promise 35");
        Page.says("Returns an entry of the award.");
        Page.says("- `place`: the place, from 0");
        Page.says("Returns the number of the entry.");
        Bench x = entered(1, 1, 2, 2, 3, 3);
        Due.same("the first place", 2, x.award(0));
        Due.same("the last place", 0, x.award(2));
        Page.says("Throws `NoSuchElementException` if there is no such place");
        for (int place : Edges.badIndexes(3)) {
            Due.thrown("place " + place, Due.MISSING, x, () -> x.award(place));
        }
        x.cook(1);
        Due.same("the last place then", 0, x.award(1));
        Due.thrown("none behind it", Due.MISSING, x, () -> x.award(2));
        x.withdraw(1);
        x.withdraw(3);
        Due.thrown("none at all", Due.MISSING, x, () -> x.award(0));
        Bench none = new Bench();
        Due.thrown("no entry", Due.MISSING, none, () -> none.award(0));
    }

    private static void promiseWithdraw() {
        Page.open("Promise 36");
        Page.says("Takes all entries of a year, as far as there are any now, out of the award for good.");
        Bench x = entered(1, 5, 2, 5, 3, 6, 4, 5);
        x.withdraw(5);
        Due.same("all of the year", "2", Due.award(x));
        x.enter(9, 5);
        Due.same("not one that is entered later", "4 2", Due.award(x));
        x.cook(4);
        x.board(4, 4);
        Due.same("for good", "2", Due.award(x));
        Page.says("- `year`: the year");
        Page.says("Returns how many were in it.");
        Bench y = entered(1, 0, 2, 0, 3, 99, 4, 50);
        Due.same("none of a year", 0, y.withdraw(1));
        Due.same("two of the first year", 2, y.withdraw(0));
        Due.same("none again", 0, y.withdraw(0));
        Due.same("one of the last year", 1, y.withdraw(99));
        y.cook(3);
        Due.same("not a cooked one", 0, y.withdraw(50));
        y.enter(5, 50);
        Due.same("one entered since", 1, y.withdraw(50));
        Due.same("none without entries", 0, new Bench().withdraw(7));
        Page.says("Throws `IllegalArgumentException` if it is not 0 to 99");
        for (int year : new int[] {-1, 100, 101, 256 + 6, 65536 + 6, Integer.MIN_VALUE, Integer.MAX_VALUE}) {
            Due.thrown("year " + year, Due.ARGUMENT, x, () -> x.withdraw(year));
        }
    }

    private static void promiseChecksum() {
        Page.open("Promise 37");
        Page.says("Returns a sum over the cells.");
        Page.says("Returns 7 at first, then for each cell 31 times itself plus the letter on it as a number, 46 for none.");
        Edges.everyBoard((columns, rows) -> {
            Bench x = Edges.empty(columns, rows);
            x.man('k', 0, 0);
            x.man('q', 1, columns * rows - 1);
            long sum = 7;
            for (int cell = 0; cell < columns * rows; cell++) {
                sum = sum * 31 + (cell == 0 ? 'K' : cell == columns * rows - 1 ? 'q' : 46);
            }
            Due.same("checksum of " + columns + " by " + rows, sum, x.checksum());
        });
        long nine = 7;
        for (char man : "G.kn.Q.Ri".toCharArray()) {
            nine = 31 * nine + man;
        }
        Due.same("nine cells", nine, Due.bench(3, 3, 1, "Ga1 kc1 na2 Qc2 Rb3 ic3").checksum());
        Due.same("an empty board of 3 by 3", 225618109104391L, Edges.empty(3, 3).checksum());
    }

    private static void promiseMobility() {
        Page.open("Promise 38");
        Page.says("Returns the share of cells to which the side that moves can go.");
        Due.same("none", 0.0f, new Bench().mobility());
        Due.same("eight of nine", 8.0f / 9.0f, Due.bench(3, 3, 0, "Kb2").mobility());
        Due.same("two cells by two men each", 6.0f / 9.0f, Due.bench(3, 3, 0, "Ra1 Rc2").mobility());
        Due.same("one cell by four promotions", 1.0f / 9.0f, Due.bench(3, 3, 0, "Pb2").mobility());
        Due.same("lawful moves alone", 2.0f / 9.0f, Due.bench(3, 3, 0, "Ka1 ra3").mobility());
        Due.same("the side that moves alone", 0.0f, Due.bench(3, 3, 1, "Kb2").mobility());
        Page.says("Returns their number divided by that of all cells, both converted to float.");
        Edges.everyBoard((columns, rows) -> {
            Bench x = Edges.empty(columns, rows);
            x.man('r', 0, 0);
            float due = (float) (columns + rows - 2) / (float) (columns * rows);
            Due.same("a rook on " + columns + " by " + rows, due, x.mobility());
        });
    }

    private static void promiseMeanPoints() {
        Page.open("Promise 39");
        Page.says("Returns the mean points of the entries in the award.");
        Bench x = entered(10, 1, 20, 2, 40, 3);
        x.cook(0);
        Due.same("not the cooked one", 30.0, x.meanPoints());
        x.withdraw(3);
        Due.same("nor the one taken out", 20.0, x.meanPoints());
        Page.says("Returns their sum divided by their number, both converted to double.");
        Due.same("one", 100.0, entered(100, 1).meanPoints());
        Due.same("no points", 0.0, entered(0, 1).meanPoints());
        Due.same("thirds", 100.0 / 3.0, entered(100, 1, 0, 1, 0, 2).meanPoints());
        Due.same("twelve", 1199.0 / 12.0, entered(100, 1, 100, 1, 100, 1, 100, 1, 100, 1, 100, 1, 100, 1, 100, 1, 100, 1, 100, 1, 100, 1, 99, 1).meanPoints());
        Page.says("Throws `NoSuchElementException` if there are none");
        x.cook(1);
        Due.thrown("none in the award", Due.MISSING, x, () -> x.meanPoints());
        Bench none = new Bench();
        Due.thrown("no entry", Due.MISSING, none, () -> none.meanPoints());
    }

    private static void promiseIsSound() {
        Page.open("Promise 40");
        Page.says("Tells whether each lawful move, made and undone, leaves the position;");
        sound(Due.bench(5, 5, 0, "Ka1 ke5 Pb2 Pb4 na5 pc4"));
        sound(rich());
        Page.says("each last move, made again, leads to it;");
        sound(Due.bench(6, 6, 1, "Pb4 Nf1 Bf2 qf6 rf5 rf4 be6 be5 nd6 nd5"));
        sound(Due.bench(4, 4, 1, "Qa4 Nd4 Ra3 kb1"));
        sound(Due.bench(4, 4, 1, "Na1 kd4"));
        sound(Due.bench(4, 4, 0, "qa1"));
        sound(EdgesOfHistory.proved(0));
        sound(EdgesOfHistory.provedForWhite());
        Page.says("and, with a problem that is not too wide, the first move of each solution is a lawful one.");
        for (String problem : new String[] {"d1#", "d2#", "d2=", "s1#", "s2=", "h1#", "h2#", "z1=", "z2#", "z3#"}) {
            sound(EdgesOfProblems.told(3, 3, "ka1 Kc1 Qb3", problem));
            sound(EdgesOfProblems.told(6, 5, "qd5 ra4 rb2 Bd2", problem));
            Bench proved = EdgesOfHistory.provedForWhite();
            proved.problem(problem.charAt(0), problem.charAt(1) - '0', '=');
            sound(proved);
        }
        sound(EdgesOfProblems.told(3, 3, "kb2 Gc2", "s1="));
        Retroboard changed = new Retroboard();
        changed.board(3, 3);
        changed.man('k', 1, 0);
        changed.man('k', 0, 2);
        changed.man('q', 0, 7);
        changed.problem('d', 2, '#');
        Due.same("four keys", 4, changed.solutions());
        changed.lift(7);
        changed.man('r', 0, 5);
        Due.same("other ones then", true, changed.isSound());
        Bench rows = EdgesOfProblems.told(5, 5, "Qb4 pb2", "z3=");
        Due.same("more rows than moves can ever be", true, rows.solutions() > 256);
        sound(rows);
        Page.says("Returns true if so.");
        sound(new Bench());
    }

    private static void sound(Bench x) {
        String before = Due.print(x);
        Due.same("sound", true, x.isSound());
        Due.same("all is as it was", before, Due.print(x, () -> x.isSound()));
    }
}
