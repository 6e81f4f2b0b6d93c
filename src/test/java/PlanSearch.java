import java.util.ArrayList;
import java.util.Arrays;
import java.util.HashMap;
import java.util.HashSet;
import java.util.List;
import java.util.Map;
import java.util.Set;

/** Goes through all plans of a puzzle from the minute 0 on, keeping the best one to each state. */
final class PlanSearch {
    private static final int LAST = 40;

    static final class Plan {
        final List<Integer> choices = new ArrayList<>();
        final List<Integer> minutes = new ArrayList<>();
        int turns;

        Plan with(int choice, int minute) {
            Plan longer = new Plan();
            longer.choices.addAll(choices);
            longer.minutes.addAll(minutes);
            longer.choices.add(choice);
            longer.minutes.add(minute);
            longer.turns = turns + Integer.bitCount(choice);
            return longer;
        }

        boolean isBetterThan(Plan other) {
            if (other == null || turns != other.turns) {
                return other == null || turns < other.turns;
            }
            for (int i = 0; i < Math.min(choices.size(), other.choices.size()); i++) {
                if (!choices.get(i).equals(other.choices.get(i))) {
                    return choices.get(i) < other.choices.get(i);
                }
            }
            return false;
        }
    }

    private final int[] sizes;
    private final List<Map<List<Integer>, Plan>> bestTo = new ArrayList<>();

    PlanSearch(int... sizes) {
        this.sizes = sizes;
        for (int minute = 0; minute <= LAST; minute++) {
            bestTo.add(new HashMap<>());
        }
        List<Integer> start = new ArrayList<>();
        for (int i = 0; i < sizes.length; i++) {
            start.add(0);
        }
        bestTo.get(0).put(start, new Plan());
        for (int minute = 0; minute <= LAST; minute++) {
            for (Map.Entry<List<Integer>, Plan> e : bestTo.get(minute).entrySet()) {
                leave(minute, e.getKey(), e.getValue());
            }
        }
    }

    private void leave(int minute, List<Integer> above, Plan plan) {
        for (int choice = 0; choice < 1 << sizes.length; choice++) {
            List<Integer> then = new ArrayList<>();
            int wait = runOut(above, choice, then);
            if (wait > 0 && minute + wait <= LAST) {
                Plan longer = plan.with(choice, minute);
                Map<List<Integer>, Plan> there = bestTo.get(minute + wait);
                if (longer.isBetterThan(there.get(then))) {
                    there.put(then, longer);
                }
            }
        }
    }

    private int runOut(List<Integer> above, int choice, List<Integer> then) {
        int wait = 0;
        int[] levels = new int[sizes.length];
        for (int i = 0; i < sizes.length; i++) {
            levels[i] = (choice >> i & 1) == 1 ? sizes[i] - above.get(i) : above.get(i);
            if (levels[i] > 0 && (wait == 0 || levels[i] < wait)) {
                wait = levels[i];
            }
        }
        for (int level : levels) {
            then.add(level > wait ? level - wait : 0);
        }
        return wait;
    }

    /** The plan for a minute, or null. */
    Plan planFor(int minute) {
        Plan best = null;
        for (Plan plan : bestTo.get(minute).values()) {
            if (plan.isBetterThan(best)) {
                best = plan;
            }
        }
        return best;
    }

    /** Walks on from each decision that can come about, at its own minute, and marks what passes till a later one. */
    boolean[] stretches() {
        boolean[] found = new boolean[LAST + 1];
        for (int from = 0; from <= LAST; from++) {
            List<Set<List<Integer>>> reached = new ArrayList<>();
            for (int minute = 0; minute <= LAST; minute++) {
                reached.add(new HashSet<>());
            }
            reached.get(from).addAll(bestTo.get(from).keySet());
            for (int minute = from; minute <= LAST; minute++) {
                for (List<Integer> above : reached.get(minute)) {
                    spreadOut(reached, minute, above);
                }
                found[minute - from] |= minute > from && !reached.get(minute).isEmpty();
            }
        }
        return found;
    }

    private void spreadOut(List<Set<List<Integer>>> reached, int minute, List<Integer> above) {
        for (int choice = 0; choice < 1 << sizes.length; choice++) {
            List<Integer> then = new ArrayList<>();
            int wait = runOut(above, choice, then);
            if (wait > 0 && minute + wait <= LAST) {
                reached.get(minute + wait).add(then);
            }
        }
    }

    @Override
    public String toString() {
        return Arrays.toString(sizes);
    }
}
