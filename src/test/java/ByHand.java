import java.util.ArrayList;
import java.util.List;

/** Problems solved by the moves of the face alone: each move is made on an object of its own. */
final class ByHand {
    private final char kind;
    private final int moves;
    private final char aim;

    ByHand(char kind, int moves, char aim) {
        this.kind = kind;
        this.moves = moves;
        this.aim = aim;
    }

    static Bench after(Bench x, int index) {
        Bench y = x.twin();
        y.make(index);
        return y;
    }

    private static Bench with(Bench x, int side) {
        Bench y = x.twin();
        y.turn(side);
        return y;
    }

    static String name(Bench x, int index) {
        int becomes = Character.toLowerCase(x.moveAt(index, 'p'));
        return x.moveAt(index, 'f') + "-" + x.moveAt(index, 't') + (becomes == 0 ? "" : "=" + (char) becomes);
    }

    /** The position as the problem begins, the side that moves first being told to. */
    Bench first(Bench x) {
        return with(x, kind == 'h' ? 1 : 0);
    }

    /** All solutions, from a position in which the right side moves. */
    String solutions(Bench x) {
        List<String> all = new ArrayList<>();
        if (kind == 'd' || kind == 's') {
            for (int i = 0; i < x.moves(); i++) {
                if (isKey(x, i)) {
                    all.add(name(x, i));
                }
            }
        } else {
            grow(x, "", kind == 'h' ? 2 * moves : moves, all);
        }
        return String.join(" ", all);
    }

    private boolean isKey(Bench x, int index) {
        Bench then = after(x, index);
        if (kind == 'd' && then.isAim(aim)) {
            return true;
        }
        return (kind == 's' || moves == 2) && then.moves() > 0 && spoiling(then, moves).isEmpty();
    }

    /** The replies, numbered, that spoil a first move, with so many moves to solve it in. */
    private List<Integer> spoiling(Bench then, int many) {
        List<Integer> all = new ArrayList<>();
        for (int k = 0; k < then.moves(); k++) {
            Bench next = after(then, k);
            boolean isGood = kind == 'd' ? aims(next) > 0 : next.isAim(aim) || (many == 2 && hasOneMoveMore(next));
            if (!isGood) {
                all.add(k);
            }
        }
        return all;
    }

    private int aims(Bench x) {
        int many = 0;
        for (int i = 0; i < x.moves(); i++) {
            many += after(x, i).isAim(aim) ? 1 : 0;
        }
        return many;
    }

    private boolean hasOneMoveMore(Bench x) {
        for (int i = 0; i < x.moves(); i++) {
            Bench then = after(x, i);
            if (then.moves() > 0 && spoiling(then, 1).isEmpty()) {
                return true;
            }
        }
        return false;
    }

    private void grow(Bench x, String row, int left, List<String> all) {
        for (int i = 0; i < x.moves(); i++) {
            Bench then = after(x, i);
            String longer = row + (row.isEmpty() ? "" : ",") + name(x, i);
            if (left == 1) {
                if (then.isAim(aim)) {
                    all.add(longer);
                }
            } else if (kind == 'h') {
                grow(then, longer, left - 1, all);
            } else if (!then.isCheck(1)) {
                grow(with(then, 0), longer, left - 1, all);
            }
        }
    }

    /** The tries with their refutations. */
    String tries(Bench x) {
        List<String> all = new ArrayList<>();
        for (int i = 0; i < x.moves() && moves == 2; i++) {
            Bench then = after(x, i);
            List<Integer> bad = spoiling(then, 2);
            if (!isKey(x, i) && bad.size() == 1) {
                all.add(cells(x, i) + ":" + cells(then, bad.get(0)));
            }
        }
        return String.join(" ", all);
    }

    private static int cells(Bench x, int index) {
        return 100 * x.moveAt(index, 'f') + x.moveAt(index, 't');
    }

    /** How many duals there are behind each key. */
    String duals(Bench x) {
        StringBuilder s = new StringBuilder();
        for (int i = 0; i < x.moves(); i++) {
            if (isKey(x, i)) {
                Bench then = after(x, i);
                int many = 0;
                for (int k = 0; k < then.moves(); k++) {
                    many += aims(after(then, k)) >= 2 ? 1 : 0;
                }
                s.append(s.length() == 0 ? "" : " ").append(many);
            }
        }
        return s.toString();
    }
}
