import java.util.Random;

/** Sentences under Pure mates and Telling, and of the promises 16 to 18. */
final class EdgesOfTelling {
    private EdgesOfTelling() {
    }

    static void run() {
        Page.open("Pure mates");
        pure();
        Page.open("Telling");
        told();
        letters();
        promiseIsPure();
        promiseTold();
        promiseSign();
    }

    /** Whether black is purely mated, to move, and white, with all the other way about. */
    private static void pure(String what, boolean due, String conditions, String men) {
        Due.same("black, " + what, due, Edges.with(conditions, 5, 5, 1, men).isPure());
        Due.same("white, " + what, due, Edges.with(conditions, 5, 5, 0, turned(men)).isPure());
    }

    private static String turned(String men) {
        StringBuilder s = new StringBuilder();
        for (String man : men.split(" ")) {
            char letter = man.charAt(0);
            s.append(s.length() == 0 ? "" : " ");
            s.append(Character.isUpperCase(letter) ? Character.toLowerCase(letter) : Character.toUpperCase(letter));
            s.append(man.charAt(1)).append((char) ('1' + '5' - man.charAt(2)));
        }
        return s.toString();
    }

    private static void pure() {
        Page.says("The side that moves is purely mated if it is mated,");
        pure("mated", true, "", "Kb3 Re1 ka1");
        pure("in check, but not mated", false, "", "Kb4 Re1 ka1");
        pure("in stalemate", false, "", "Ke5 Qc2 ka1");
        pure("without a king", false, "", "Kb3 Re1");
        Due.same("the side that does not move", false, Due.bench(5, 5, 0, "Kb3 Re1 ka1").isPure());
        Page.says("and each cell next to its king on the board,");
        pure("its own cell struck twice", true, "", "Kb3 Re1 Nc2 ka1");
        pure("a cell off the board is none", true, "", "Kb3 Re1 kb1");
        pure("a cell further off struck twice", true, "", "Kb3 Re1 Ne3 ka1");
        Page.says("either has a man of its own that no man of the other side strikes,");
        pure("its own man not struck", true, "", "Kc2 Nb3 pa2 ka1");
        pure("its own man struck", false, "", "Kc2 Nb3 pa2 ka1 Ra5");
        pure("its own man reached by one that strikes nothing", true, "m", "Kc2 Nb3 pa2 ka1 Ra5 re5");
        Page.says("or none of its own, and is struck by just one man of the other side;");
        pure("a free cell struck twice", false, "", "Kb3 Re1 Nc3 ka1");
        pure("a cell with a man of the other side struck once", true, "", "Kc2 Nb3 Bb1 ka1");
        pure("and struck twice", false, "", "Kc2 Nb3 Bb1 Re1 ka1");
        Page.says("with the king taken off the board for this.");
        pure("struck through the king", true, "", "Kb3 Re1 kb1");
        anyMates();
    }

    /** Mates that come about by chance, with a seed of their own, on a board small enough to tell cells by their sum. */
    private static void anyMates() {
        Random random = new Random(40);
        int mates = 0;
        int pures = 0;
        for (int i = 0; i < 60000; i++) {
            int side = i & 1;
            Bench x = Edges.empty(4, 4);
            x.man('k', side, random.nextInt(16));
            for (int k = 3 + random.nextInt(4); k > 0; k--) {
                int whose = random.nextInt(4) == 0 ? side : 1 - side;
                char kind = "qrbnigcpk".charAt(random.nextInt(9));
                int cell = random.nextInt(16);
                Due.outcome(() -> x.man(kind, whose, cell));
            }
            if (random.nextInt(4) == 0) {
                x.condition("mgp".charAt(random.nextInt(3)), true);
            }
            x.turn(side);
            if (x.isAim('#')) {
                boolean isPure = isPureByHand(x, side);
                mates++;
                pures += isPure ? 1 : 0;
                Due.same("pure, mate " + i, isPure, x.isPure());
            }
        }
        Due.same("enough of them", true, mates > 500 && pures > 50);
    }

    private static boolean isPureByHand(Bench x, int side) {
        Bench y = x.twin();
        int king = 0;
        while (x.at(king) != (side == 0 ? 'K' : 'k')) {
            king++;
        }
        y.lift(king);
        boolean is = true;
        for (int cell = 0; cell < 16; cell++) {
            boolean isNext = cell != king && Math.abs(cell / 4 - king / 4) <= 1 && Math.abs(cell % 4 - king % 4) <= 1;
            boolean isOwn = y.at(cell) != '.' && Character.isUpperCase(y.at(cell)) == (side == 0);
            is = is && (!isNext || strikers(y, cell, 1 - side) == (isOwn ? 0 : 1));
        }
        return is;
    }

    private static int strikers(Bench x, int cell, int side) {
        int many = 0;
        for (int from = 0; from < 16; from++) {
            if (x.at(from) != '.' && Character.isUpperCase(x.at(from)) == (side == 0)) {
                many += x.reach(from, true) >> cell & 1;
            }
        }
        return many;
    }

    private static void told() {
        Page.says("A move is told by the letter of its man, none of a pawn,");
        Due.same("a king's", "Ka1-b1 Ka1-a2 Ka1-b2", Due.list(Due.bench(3, 3, 0, "Ka1")));
        Due.same("a pawn's", "b2-b3", Due.list(Due.bench(4, 4, 0, "Pb2")));
        Page.says("the cell from which it goes, the column as a letter from a on and the row from 1 on,");
        Edges.everyBoard((columns, rows) -> {
            Bench first = Edges.empty(columns, rows);
            first.man('k', 0, 0);
            Due.same("from the first cell", "Ka1-b1", Due.text(first, 0, 0));
            Bench last = Edges.empty(columns, rows);
            last.man('k', 0, columns * rows - 1);
            String due = "K" + "cdef".charAt(columns - 3) + rows + "-" + "bcde".charAt(columns - 3) + rows;
            Due.same("from the last cell", due, Due.text(last, 2, 0));
        });
        Page.says("a - or, by capturing, an x,");
        Due.same("free or not", "Ra1xb1 Ra1-a2 Ra1-a3", Due.list(Due.bench(3, 3, 0, "Ra1 nb1")));
        Bench passing = Due.bench(5, 5, 0, "Pb2 pc4");
        Due.go(passing, 6, 16);
        Due.same("en passant", "c4-c2 c4xb3 c4-c3", Due.list(passing));
        Page.says("the cell to which it goes,");
        Due.same("by two cells", "b2-b3 b2-b4", Due.list(Due.bench(5, 5, 0, "Pb2")));
        Page.says("for a promotion = and the letter,");
        Due.same("white's", "b2xa3=Q b2xa3=R b2xa3=B b2xa3=N b2-b3=Q b2-b3=R b2-b3=B b2-b3=N", Due.list(Due.bench(3, 3, 0, "Pb2 na3")));
        Due.same("black's", "b2-b1=Q b2-b1=R b2-b1=B b2-b1=N", Due.list(Due.bench(3, 3, 1, "pb2")));
        Page.says("and + for a check, # for a mate.");
        tells("check", "Re3-e1+", "Re3 ka1");
        tells("mate", "Re3-e1#", "Re3 Rd2 ka1");
        tells("neither", "Re3-e2", "Re3 ka1");
        tells("stalemate", "Qd3-c2", "Qd3 ka1 Kd5");
        tells("check that a man can stop", "Re3-e1+", "Re3 Rd2 ka1 rb5");
        tells("check by promotion", "b4-b5=R+", "Pb4 ke5");
        tells("mate by promotion", "b4-b5=Q#", "Pb4 Ra4 ke5");
        tells("check by the man behind", "Na3-b1+", "Na3 Ra5 ka1");
        tells("check by capturing", "Re3xe1+", "Re3 ne1 ka1");
        Due.same("mate by black", true, (" " + Due.list(Due.bench(5, 5, 1, "re3 rd2 Ka1")) + " ").contains(" Re3-e1# "));
    }

    private static void tells(String what, String move, String men) {
        String all = Due.list(Due.bench(5, 5, 0, men));
        Due.same(what + ", among " + all, true, (" " + all + " ").contains(" " + move + " "));
    }

    private static void letters() {
        Page.says("Letters in the tongue 0 are K Q R B N I G C,");
        lettersOf(0, "KQRBNIGC");
        Page.says("in the tongue 1 K D T L S I G C.");
        lettersOf(1, "KDTLSIGC");
    }

    private static void lettersOf(int tongue, String letters) {
        for (int i = 0; i < 8; i++) {
            for (int side = 0; side < 2; side++) {
                Bench x = Edges.empty(6, 6);
                x.man("kqrbnigc".charAt(i), side, 14);
                x.man('p', 1 - side, 13);
                x.turn(side);
                Due.same("letter " + i + " in the tongue " + tongue, letters.charAt(i), x.sign(0, tongue, 0));
            }
        }
        Bench x = Due.bench(3, 3, 0, "Pb2");
        for (int i = 0; i < 4; i++) {
            Due.same("a promotion in the tongue " + tongue, "b2-b3=" + letters.charAt(i + 1), Due.text(x, i, tongue));
        }
    }

    private static void promiseIsPure() {
        Page.open("Promise 16");
        Page.says("Tells whether the side that moves is purely mated.");
        Page.says("Returns true if so.");
        Bench x = Due.bench(5, 5, 1, "Kb3 Re1 ka1");
        Due.same("black", true, x.isPure());
        Due.same("it changes nothing", 'k', x.at(0));
        x.turn(0);
        Due.same("white", false, x.isPure());
        Due.same("without men", false, new Bench().isPure());
    }

    private static void promiseTold() {
        Page.open("Promise 17");
        Page.says("Returns how long a lawful move is, told.");
        Page.says("- `index`: the index, from 0");
        Page.says("- `tongue`: 0 or 1");
        Page.says("Returns how many signs.");
        for (int tongue = 0; tongue < 2; tongue++) {
            Due.same("a pawn's step", 5, Due.bench(4, 4, 0, "Pb2").told(0, tongue));
            Due.same("a king's", 6, Due.bench(4, 4, 0, "Ka1").told(0, tongue));
            Due.same("with check", 7, Due.bench(5, 5, 0, "Re3 ka1").told(0, tongue));
            Due.same("a promotion", 7, Due.bench(3, 3, 0, "Pb2").told(0, tongue));
            Due.same("a promotion with check", 8, Due.bench(5, 5, 0, "Pb4 ke5").told(0, tongue));
        }
        Bench x = Due.bench(3, 3, 0, "Ka1");
        Page.says("Throws `NoSuchElementException` if there is no such move");
        for (int index : Edges.badIndexes(3)) {
            Due.thrown("index " + index, Due.MISSING, x, () -> x.told(index, 1));
            Due.thrown("ahead of no such tongue", Due.MISSING, x, () -> x.told(index, 2));
        }
        Page.says("Throws `IllegalArgumentException` if there is no such tongue");
        for (int tongue : Edges.BAD_SIDES) {
            Due.thrown("tongue " + tongue, Due.ARGUMENT, x, () -> x.told(0, tongue));
            Due.thrown("tongue " + tongue, Due.ARGUMENT, x, () -> x.told(2, tongue));
        }
    }

    private static void promiseSign() {
        Page.open("Promise 18");
        Page.says("Returns a sign of a lawful move, told.");
        Page.says("- `index`: the index, from 0");
        Page.says("- `tongue`: 0 or 1");
        Page.says("- `place`: the place of the sign, from 0");
        Page.says("Returns the sign.");
        Bench x = Due.bench(5, 5, 0, "Pb4 na5 ke5");
        String[] due = {"b4xa5=Q+", "b4xa5=D+"};
        for (int tongue = 0; tongue < 2; tongue++) {
            Due.same("its length", 8, x.told(0, tongue));
            for (int place = 0; place < 8; place++) {
                Due.same("sign " + place, due[tongue].charAt(place), x.sign(0, tongue, place));
            }
        }
        Page.says("Throws `NoSuchElementException` if there is no such move");
        for (int index : Edges.badIndexes(x.moves())) {
            Due.thrown("index " + index, Due.MISSING, x, () -> x.sign(index, 0, 0));
            Due.thrown("ahead of all else", Due.MISSING, x, () -> x.sign(index, 2, 99));
        }
        Page.says("Throws `IllegalArgumentException` if there is no such tongue");
        for (int tongue : Edges.BAD_SIDES) {
            Due.thrown("tongue " + tongue, Due.ARGUMENT, x, () -> x.sign(0, tongue, 0));
            Due.thrown("ahead of no such sign", Due.ARGUMENT, x, () -> x.sign(0, tongue, 99));
        }
        Page.says("Throws `IndexOutOfBoundsException` if there is no such sign");
        for (int i = 0; i < x.moves(); i++) {
            int index = i;
            int many = x.told(i, 0);
            Due.same("the last sign is a cell's, a letter or +", true, "12345QRBN+#".indexOf(x.sign(i, 0, many - 1)) >= 0);
            Due.thrown("the place behind it", Due.BOUNDS, x, () -> x.sign(index, 0, many));
            Due.thrown("the place behind it, in the other tongue", Due.BOUNDS, x, () -> x.sign(index, 1, many));
        }
        for (int place : Edges.badIndexes(x.told(0, 0))) {
            Due.thrown("place " + place, Due.BOUNDS, x, () -> x.sign(0, 0, place));
        }
    }
}
