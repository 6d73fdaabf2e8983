import java.util.ArrayList;
import java.util.List;
import java.util.function.Function;
import java.util.function.Supplier;

/**
 * The face of a Retroboard that keeps within the 512 calls that the document promises for one object: what has changed
 * it is written down, and when the calls run out, a new object is brought to the same state by the same changes.
 */
final class Bench {
    static final int MOST_CALLS = 512;

    private final List<Function<Retroboard, ?>> changes = new ArrayList<>();
    private Retroboard live = new Retroboard();
    private int calls;
    private boolean isProbing;

    private Retroboard next() {
        if (calls >= MOST_CALLS) {
            if (isProbing) {
                throw new AssertionError("the test asks one object more than 512 times");
            }
            renew();
        }
        calls++;
        return live;
    }

    private void renew() {
        live = new Retroboard();
        calls = changes.size();
        if (calls >= MOST_CALLS) {
            throw new AssertionError("the test changes one object more than 512 times");
        }
        for (Function<Retroboard, ?> change : changes) {
            change.apply(live);
        }
    }

    private <T> T change(Function<Retroboard, T> call) {
        T answer = call.apply(next());
        if (!isProbing) {
            changes.add(call);
        }
        return answer;
    }

    private <T> T ask(Function<Retroboard, T> call) {
        return call.apply(next());
    }

    /** What is found on a new object behind the changes, and behind some calls more; nothing of it stays. */
    String probe(Runnable more, Supplier<String> found) {
        renew();
        isProbing = true;
        more.run();
        String answer = found.get();
        isProbing = false;
        renew();
        return answer;
    }

    /** Another object, brought to the same state. */
    Bench twin() {
        Bench other = new Bench();
        other.changes.addAll(changes);
        other.renew();
        return other;
    }

    /** How many calls the object that stands behind this face has had. */
    int calls() {
        return calls;
    }

    int board(int columns, int rows) {
        return change(r -> r.board(columns, rows));
    }

    int man(char kind, int side, int cell) {
        return change(r -> r.man(kind, side, cell));
    }

    char lift(int cell) {
        return change(r -> r.lift(cell));
    }

    char at(int cell) {
        return ask(r -> r.at(cell));
    }

    int turn(int side) {
        return change(r -> r.turn(side));
    }

    boolean condition(char letter, boolean is) {
        return change(r -> r.condition(letter, is));
    }

    int army(char kind, int side, int many) {
        return change(r -> r.army(kind, side, many));
    }

    int moves() {
        return ask(r -> r.moves());
    }

    int moveAt(int index, char what) {
        return ask(r -> r.moveAt(index, what));
    }

    char make(int index) {
        return change(r -> r.make(index));
    }

    int undo() {
        return change(r -> r.undo());
    }

    boolean isCheck(int side) {
        return ask(r -> r.isCheck(side));
    }

    boolean isAim(char aim) {
        return ask(r -> r.isAim(aim));
    }

    int reach(int cell, boolean isStruck) {
        return ask(r -> r.reach(cell, isStruck));
    }

    boolean isPure() {
        return ask(r -> r.isPure());
    }

    int told(int index, int tongue) {
        return ask(r -> r.told(index, tongue));
    }

    char sign(int index, int tongue, int place) {
        return ask(r -> r.sign(index, tongue, place));
    }

    int problem(char kind, int moves, char aim) {
        return change(r -> r.problem(kind, moves, aim));
    }

    int solutions() {
        return ask(r -> r.solutions());
    }

    int solved(int solution, int ply, char what) {
        return ask(r -> r.solved(solution, ply, what));
    }

    int tries() {
        return ask(r -> r.tries());
    }

    int tried(int index, boolean isRefutation) {
        return ask(r -> r.tried(index, isRefutation));
    }

    int duals(int key) {
        return ask(r -> r.duals(key));
    }

    boolean isPossible() {
        return ask(r -> r.isPossible());
    }

    int lasts() {
        return ask(r -> r.lasts());
    }

    int lastAt(int index, char what) {
        return ask(r -> r.lastAt(index, what));
    }

    int prove() {
        return change(r -> r.prove());
    }

    int array() {
        return change(r -> r.array());
    }

    int games(int halves) {
        return ask(r -> r.games(halves));
    }

    int enter(int points, int year) {
        return change(r -> r.enter(points, year));
    }

    boolean cook(int entry) {
        return change(r -> r.cook(entry));
    }

    int like(int entry, int other) {
        return ask(r -> r.like(entry, other));
    }

    int anticipated(int entry, int least) {
        return ask(r -> r.anticipated(entry, least));
    }

    int award(int place) {
        return ask(r -> r.award(place));
    }

    int withdraw(int year) {
        return change(r -> r.withdraw(year));
    }

    long checksum() {
        return ask(r -> r.checksum());
    }

    float mobility() {
        return ask(r -> r.mobility());
    }

    double meanPoints() {
        return ask(r -> r.meanPoints());
    }

    boolean isSound() {
        return ask(r -> r.isSound());
    }
}
