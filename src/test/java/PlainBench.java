import java.util.ArrayList;
import java.util.Collections;
import java.util.List;
import java.util.NoSuchElementException;

/** A second bench from the document alone, grain by grain and second by second; puzzles it takes from PlanSearch. */
final class PlainBench {
    private static final class Glass {
        int above;
        int below;
        int forth;
        int back;
        int funnel;
        int turns;
        int lastTurn;
        int jam;
        int feeds = -1;
        boolean jammed;
        char how = 'u';
        final List<Integer> allRuns = new ArrayList<>();

        int rate() {
            int full = 0;
            while ((full + 1) * 40 <= turns) {
                full++;
            }
            int rate = (turns % 2 == 0 ? forth : back) + full;
            rate = above > funnel ? rate : rate - rate / 2;
            return how == 't' ? rate - rate / 2 : rate;
        }

        int wouldFall() {
            return how == 'l' ? 0 : Math.min(rate(), above);
        }

        void turnAt(int second) {
            int kept = above;
            above = below;
            below = kept;
            turns++;
            jammed = false;
            lastTurn = second;
        }

        List<Integer> kept() {
            return allRuns.subList(Math.max(0, allRuns.size() - 10), allRuns.size());
        }
    }

    private static final class Gate {
        int ofGlass = -1;
        int ofGate = -1;
        int every;
        int in;
        int tips;
    }

    private final List<Glass> glasses = new ArrayList<>();
    private final List<Gate> gates = new ArrayList<>();
    private final List<Integer> told = new ArrayList<>();
    private PlanSearch searched;
    private boolean[] stretches;
    private int second;
    private long z = 1;
    private int shipGlass = -1;
    private int halfHours;
    private int noonAt;

    private static void range(int number, int least, int most) {
        if (number < least || most < number) {
            throw new IllegalArgumentException();
        }
    }

    private static void state(boolean fine) {
        if (!fine) {
            throw new IllegalStateException();
        }
    }

    private static void element(boolean fine) {
        if (!fine) {
            throw new NoSuchElementException();
        }
    }

    private static void supported(boolean fine) {
        if (!fine) {
            throw new UnsupportedOperationException();
        }
    }

    private static <T> T at(List<T> list, int place) {
        if (place < 0 || list.size() <= place) {
            throw new IndexOutOfBoundsException();
        }
        return list.get(place);
    }

    int addGlass(int grains, int forth, int back, int funnel) {
        range(grains, 1, 9999);
        range(forth, 1, 50);
        range(back, 1, 50);
        range(funnel, 0, 99);
        state(glasses.size() < 8);
        Glass glass = new Glass();
        glass.below = grains;
        glass.forth = forth;
        glass.back = back;
        glass.funnel = funnel;
        glasses.add(glass);
        return glasses.size() - 1;
    }

    int above(int glass) {
        return at(glasses, glass).above;
    }

    int below(int glass) {
        return at(glasses, glass).below;
    }

    char state(int glass) {
        Glass g = at(glasses, glass);
        return g.jammed ? 'j' : g.how == 'l' ? 'l' : g.above > 0 ? 'r' : 'e';
    }

    int turn(int glass) {
        Glass g = at(glasses, glass);
        g.turnAt(second);
        return g.above;
    }

    int timesTurned(int glass) {
        return at(glasses, glass).turns;
    }

    char stand(int glass, char how) {
        Glass g = at(glasses, glass);
        range("utl".indexOf(how), 0, 2);
        char before = g.how;
        g.how = how;
        return before;
    }

    int setJam(int glass, int jam) {
        Glass g = at(glasses, glass);
        range(jam, 0, 999);
        int before = g.jam;
        g.jam = jam;
        return before;
    }

    boolean tap(int glass) {
        Glass g = at(glasses, glass);
        boolean before = g.jammed;
        g.jammed = false;
        return before;
    }

    int pour(int glass, int grains) {
        Glass g = at(glasses, glass);
        range(grains, 1, 999);
        state(g.above + g.below + grains <= 19999);
        g.above += grains;
        return g.above;
    }

    int falls(int glass) {
        return at(glasses, glass).wouldFall();
    }

    int runTime(int glass) {
        Glass g = at(glasses, glass);
        supported(g.how != 'l');
        int kept = g.above;
        int seconds = 0;
        while (g.above > 0) {
            g.above -= g.wouldFall();
            seconds++;
        }
        g.above = kept;
        return seconds;
    }

    int feed(int glass, int other) {
        Glass g = at(glasses, glass);
        if (other != -1) {
            at(glasses, other);
            supported(other > glass);
        }
        int before = g.feeds;
        g.feeds = other;
        return before;
    }

    int grains() {
        int sum = 0;
        for (Glass g : glasses) {
            sum += g.above + g.below;
        }
        return sum;
    }

    int pass(int seconds) {
        range(seconds, 1, 600);
        state(second + seconds <= 19999);
        for (int i = 0; i < seconds; i++) {
            oneSecond();
        }
        return second;
    }

    private void oneSecond() {
        boolean[] fell = new boolean[glasses.size()];
        for (int i = 0; i < glasses.size(); i++) {
            Glass g = glasses.get(i);
            if (g.above == 0 || g.how == 'l') {
                continue;
            }
            if (g.jam > 0 && !g.jammed) {
                z = z * 48271 % 2147483647;
                g.jammed = z % 1000 < g.jam;
            }
            for (int left = g.jammed ? 0 : g.wouldFall(); left > 0; left--) {
                fell[i] = true;
                oneGrain(i, g);
            }
        }
        second++;
        for (int i = 0; i < glasses.size(); i++) {
            Glass g = glasses.get(i);
            if (fell[i] && g.above == 0 && g.turns > 0) {
                g.allRuns.add(second - g.lastTurn);
            }
        }
    }

    private void oneGrain(int number, Glass glass) {
        glass.above--;
        if (glass.feeds == -1) {
            glass.below++;
        } else {
            glasses.get(glass.feeds).above++;
        }
        for (Gate gate : gates) {
            if (gate.ofGlass == number) {
                oneMore(gate);
            }
        }
    }

    private void oneMore(Gate gate) {
        gate.in++;
        if (gate.in == gate.every) {
            gate.in = 0;
            gate.tips++;
            for (Gate other : gates) {
                if (other.ofGate >= 0 && gates.get(other.ofGate) == gate) {
                    oneMore(other);
                }
            }
        }
    }

    int time() {
        return second;
    }

    int seed(int newZ) {
        range(newZ, 1, 2147483646);
        int before = (int) z;
        z = newZ;
        return before;
    }

    int gateAt(int glass, int every) {
        at(glasses, glass);
        return addGate(glass, -1, every);
    }

    int gateBehind(int gate, int every) {
        at(gates, gate);
        return addGate(-1, gate, every);
    }

    private int addGate(int ofGlass, int ofGate, int every) {
        range(every, 1, 100);
        state(gates.size() < 6);
        Gate gate = new Gate();
        gate.ofGlass = ofGlass;
        gate.ofGate = ofGate;
        gate.every = every;
        gates.add(gate);
        return gates.size() - 1;
    }

    int tips(int gate) {
        return at(gates, gate).tips;
    }

    int filled(int gate) {
        return at(gates, gate).in;
    }

    int runs(int glass) {
        return at(glasses, glass).kept().size();
    }

    int runAt(int glass, int run) {
        List<Integer> kept = at(glasses, glass).kept();
        element(run >= 0 && run < kept.size());
        return kept.get(run);
    }

    double meanRun(int glass) {
        List<Integer> kept = at(glasses, glass).kept();
        element(!kept.isEmpty());
        int sum = 0;
        for (int run : kept) {
            sum += run;
        }
        return (double) sum / (double) kept.size();
    }

    int spread(int glass) {
        List<Integer> kept = at(glasses, glass).kept();
        element(kept.size() >= 2);
        return Collections.max(kept) - Collections.min(kept);
    }

    int steadiest() {
        int best = -1;
        for (int i = glasses.size() - 1; i >= 0; i--) {
            if (runs(i) >= 2 && (best < 0 || spread(i) <= spread(best))) {
                best = i;
            }
        }
        element(best >= 0);
        return best;
    }

    int knots(int glass, int counted) {
        List<Integer> kept = at(glasses, glass).kept();
        range(counted, 0, 99);
        element(!kept.isEmpty());
        return counted * 280 / kept.get(kept.size() - 1);
    }

    int tell(int minutes) {
        range(minutes, 1, 12);
        state(told.size() < 3);
        told.add(minutes);
        searched = null;
        return told.size();
    }

    int forget() {
        int before = told.size();
        told.clear();
        searched = null;
        return before;
    }

    private PlanSearch search() {
        if (searched == null) {
            int[] sizes = new int[told.size()];
            for (int i = 0; i < sizes.length; i++) {
                sizes[i] = told.get(i);
            }
            searched = new PlanSearch(sizes);
            stretches = null;
        }
        return searched;
    }

    boolean canMeasure(int minute) {
        range(minute, 1, 40);
        return search().planFor(minute) != null;
    }

    private PlanSearch.Plan plan(int minute) {
        element(canMeasure(minute));
        return search().planFor(minute);
    }

    int fewestTurns(int minute) {
        return plan(minute).turns;
    }

    int decisions(int minute) {
        return plan(minute).choices.size();
    }

    int turnedAt(int minute, int decision) {
        List<Integer> choices = plan(minute).choices;
        element(decision >= 0 && decision < choices.size());
        return choices.get(decision);
    }

    int minuteAt(int minute, int decision) {
        List<Integer> minutes = plan(minute).minutes;
        element(decision >= 0 && decision < minutes.size());
        return minutes.get(decision);
    }

    int measurable(int limit) {
        range(limit, 1, 40);
        int count = 0;
        for (int minute = 1; minute <= limit; minute++) {
            count += canMeasure(minute) ? 1 : 0;
        }
        return count;
    }

    boolean canStretch(int minutes) {
        range(minutes, 1, 40);
        if (searched == null || stretches == null) {
            stretches = search().stretches();
        }
        return stretches[minutes];
    }

    int divisor() {
        int divisor = 0;
        for (int minutes : told) {
            for (int rest = minutes; rest > 0;) {
                int kept = rest;
                rest = divisor == 0 ? 0 : divisor % rest;
                divisor = kept;
            }
        }
        return divisor;
    }

    int setShip(int glass) {
        at(glasses, glass);
        int before = shipGlass;
        shipGlass = glass;
        return before;
    }

    int boy() {
        supported(shipGlass >= 0);
        turn(shipGlass);
        halfHours++;
        return halfHours;
    }

    int noon() {
        int before = halfHours;
        halfHours = 0;
        noonAt = second;
        return before;
    }

    int bells() {
        int bells = 0;
        for (int i = 0; i < halfHours; i++) {
            bells = bells == 8 ? 1 : bells + 1;
        }
        return bells;
    }

    int watch() {
        int watch = 0;
        for (int left = halfHours; left >= 8; left -= 8) {
            watch = watch == 5 ? 0 : watch + 1;
        }
        return watch;
    }

    int wrongBy() {
        return 1800 * halfHours - (second - noonAt);
    }

    long checksum() {
        List<Long> parts = new ArrayList<>();
        for (Glass g : glasses) {
            parts.add((long) g.above);
            parts.add((long) g.below);
            parts.add((long) g.turns);
        }
        for (Gate gate : gates) {
            parts.add((long) gate.tips);
            parts.add((long) gate.in);
        }
        parts.add((long) second);
        parts.add(z);
        long sum = 7;
        for (long part : parts) {
            sum = sum * 31 + part;
        }
        return sum;
    }

    float aboveShare() {
        element(!glasses.isEmpty());
        int above = 0;
        for (Glass g : glasses) {
            above += g.above;
        }
        return (float) above / (float) grains();
    }
}
