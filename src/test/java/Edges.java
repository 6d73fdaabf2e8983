/** What the tests of single sentences share. */
final class Edges {
    static final String KINDS = "kqrbnigcp";
    /** Sides that there are not; some would be 0 or 1 if they were cut down to a few bits. */
    static final int[] BAD_SIDES = {-1, 2, 3, 256, 65537, Integer.MIN_VALUE, Integer.MAX_VALUE};
    /** Kinds that there are not, a capital letter and letters that are right but for a higher bit among them. */
    static final char[] BAD_KINDS = {'K', 'P', 'x', 'a', '.', ' ', (char) 0, (char) ('k' + 128), (char) ('k' + 256), (char) 65535};

    private Edges() {
    }

    interface Board {
        void of(int columns, int rows);
    }

    /** Whether a cell so many rows up and so many columns aside is meant. */
    interface Near {
        boolean is(int up, int aside);
    }

    static void everyBoard(Board board) {
        for (int columns = 3; columns <= 6; columns++) {
            for (int rows = 3; rows <= 6; rows++) {
                board.of(columns, rows);
            }
        }
    }

    static Bench empty(int columns, int rows) {
        Bench x = new Bench();
        x.board(columns, rows);
        return x;
    }

    static Bench with(String conditions, int columns, int rows, int side, String men) {
        Bench x = Due.bench(columns, rows, side, men);
        for (char condition : conditions.toCharArray()) {
            x.condition(condition, true);
        }
        return x;
    }

    /** Cells that there are not; some would be cells if they were cut down to a few bits. */
    static int[] badCells(int cells) {
        return new int[] {-1, cells, cells + 1, 64, 256, 65536, -cells, Integer.MIN_VALUE, Integer.MAX_VALUE};
    }

    /** Indexes that there are not among so many. */
    static int[] badIndexes(int many) {
        return new int[] {-1, many, many + 1, many + 256, many + 65536, Integer.MIN_VALUE, Integer.MAX_VALUE};
    }

    /** The sum that stands for all cells of a board that are near another one, as told. */
    static int sum(int columns, int rows, int from, Near near) {
        long sum = 0;
        for (int cell = 0; cell < columns * rows; cell++) {
            if (cell != from && near.is(cell / columns - from / columns, cell % columns - from % columns)) {
                sum += 1L << cell;
            }
        }
        return (int) (sum % 1000003);
    }

    static boolean areBoth(int a, int b, int one, int other) {
        return (a == one || a == -one) && (b == other || b == -other);
    }
}
