import java.util.List;
import java.util.Set;
import java.util.TreeSet;
import java.util.function.Supplier;

/** Calls at a bound and next to it; of a refused one, that all else is as if it had not been made. */
final class Bounds {
    interface Call {
        long on(TortoiseShelves x);
    }

    interface With {
        long on(TortoiseShelves x, int v);
    }

    private static final int FINDINGS = 7;

    private final Due d;

    Bounds(Due d) {
        this.d = d;
    }

    /**
     * An argument from lowest to highest: both are taken, with the answers told; one below, one above and
     * values far off are BEYOND. Each call has an object of its own.
     */
    void range(String name, Supplier<TortoiseShelves> scene, With call, int lowest, long atLowest, int highest,
            long atHighest) {
        taken(name + " at " + lowest, scene, x -> call.on(x, lowest), atLowest);
        taken(name + " at " + highest, scene, x -> call.on(x, highest), atHighest);
        for (int v : outside(lowest, highest)) {
            refused(name + " at " + v, scene, x -> call.on(x, v), Due.BEYOND);
        }
    }

    /** The neighbours of a range, and what a shift or a sum that wraps around would bring back into it. */
    static Set<Integer> outside(int lowest, int highest) {
        Set<Integer> values = new TreeSet<>();
        int[] all = {lowest - 1, highest + 1, lowest - 32, lowest + 32, lowest + 64, lowest - 256, lowest + 256,
            lowest + 65536, lowest ^ Integer.MIN_VALUE, highest ^ Integer.MIN_VALUE, -highest, ~highest, 1 << 30,
            Integer.MIN_VALUE, Integer.MIN_VALUE + 1, Integer.MAX_VALUE, -1000000001};
        for (int v : all) {
            if (v < lowest || v > highest) {
                values.add(v);
            }
        }
        return values;
    }

    /** A call with its answer, which may be a finding that isn't BEYOND. */
    void taken(String name, Supplier<TortoiseShelves> scene, Call call, long want) {
        d.due(name, call.on(scene.get()), want);
    }

    /** A call that answers a finding: it is counted once, and nothing else has changed. */
    void refused(String name, Supplier<TortoiseShelves> scene, Call call, long want) {
        TortoiseShelves x = scene.get();
        long[] before = status(x);
        d.due(name, call.on(x), want);
        long[] after = status(x);
        int which = (int) (Due.BEYOND - want);
        for (int f = 0; f < FINDINGS; f++) {
            d.due(name + ": status(" + f + ")", after[f], before[f] + (f == which ? 1 : 0));
        }
        d.due(name + ": status(-1)", after[FINDINGS], before[FINDINGS] + 1);
        same(name, x, scene.get());
    }

    /** A call that only asks: no finding is counted, and nothing has changed. */
    void quiet(String name, Supplier<TortoiseShelves> scene, Call call, long want) {
        TortoiseShelves x = scene.get();
        long[] before = status(x);
        d.due(name, call.on(x), want);
        long[] after = status(x);
        for (int f = 0; f <= FINDINGS; f++) {
            d.due(name + ": status, " + f, after[f], before[f]);
        }
        same(name, x, scene.get());
    }

    /** Two objects of which the same can be asked; both are used up. */
    void same(String name, TortoiseShelves x, TortoiseShelves untouched) {
        List<String> got = Scene.portrait(x);
        List<String> want = Scene.portrait(untouched);
        d.due(name + ": lines told", got.size(), want.size());
        for (int i = 0; i < got.size() && i < want.size(); i++) {
            d.due(name + ": as it was: " + want.get(i) + ", not " + got.get(i), got.get(i).equals(want.get(i)) ? 1 : 0, 1);
        }
    }

    private static long[] status(TortoiseShelves x) {
        long[] counts = new long[FINDINGS + 1];
        for (int f = 0; f < FINDINGS; f++) {
            counts[f] = x.status(f);
        }
        counts[FINDINGS] = x.status(-1);
        return counts;
    }
}
