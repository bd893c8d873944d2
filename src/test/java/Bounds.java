import java.util.List;
import java.util.TreeSet;
import java.util.function.ToLongFunction;

/** What the tests of the document's bounds share: each sentence that names one is a test of its own. */
abstract class Bounds {
    static final int MIN = Integer.MIN_VALUE, MAX = Integer.MAX_VALUE;
    static final int NONE = -1, BAD = -2, STATE = -3, FULL = -4, NO_SUCH = -5;
    static final int NOTHING = -11, CAST = -12, PLACE = -13, SIZE = -14;
    static final long NO = Long.MIN_VALUE;

    /** The calls that an object is promised for. */
    static final int MOST_CALLS = 512;

    private final Checks checks = new Checks(getClass().getSimpleName());
    private final TreeSet<Integer> promises = new TreeSet<>();
    private String sentence = "";

    /** The words are the document's; all that is looked at until the next sentence is looked at for them. */
    final void sentence(int promise, String words) {
        promises.add(promise);
        sentence = "promise " + promise + ", \"" + words + "\": ";
    }

    final void due(String call, long got, long want) {
        checks.due(sentence + call, got, want);
    }

    /** The call answers as due, and all answers behind it are those of an object that it was not made on. */
    final void changesNothing(State state, String name, ToLongFunction<WeighedLots> call, long want) {
        WeighedLots called = state.make();
        due(state + ": " + name, call.applyAsLong(called), want);
        alike(state + ": behind " + name, called, state.make());
    }

    final void changesNothing(String name, ToLongFunction<WeighedLots> call, long want) {
        for (State state : State.values()) {
            changesNothing(state, name, call, want);
        }
    }

    final void alike(String where, WeighedLots x, WeighedLots other) {
        List<String> got = Probe.of(x);
        List<String> want = Probe.of(other);
        for (int k = 0; k < got.size(); k++) {
            if (!got.get(k).equals(want.get(k))) {
                checks.holds(sentence + where + " " + got.get(k) + ", without it " + want.get(k), false);
                return;
            }
        }
        checks.holds(sentence + where, got.size() == want.size());
    }

    /**
     * Numbers outside first .. last: the nearest on both sides, the ends of all ints, and those that a shift, a mask
     * or a sum that wraps around would take for one inside.
     */
    static int[] beyond(int first, int last) {
        TreeSet<Integer> found = new TreeSet<>(List.of(MIN, MIN + 1, MAX, MAX - 1, 1 << 30, -(1 << 30)));
        for (int edge : new int[] {first, last, 0, 1}) {
            for (int far : new int[] {1, 2, 8, 16, 32, 64, 100, 128, 256, 1 << 16, 1 << 24, MIN}) {
                found.add(edge + far);
                found.add(edge - far);
            }
        }
        found.removeIf(number -> number >= first && number <= last);
        return found.stream().mapToInt(Integer::intValue).toArray();
    }

    final void end(int... due) {
        for (int promise : due) {
            checks.holds("promise " + promise + " has no sentence", promises.contains(promise));
        }
        checks.end();
    }
}
