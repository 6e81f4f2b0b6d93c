import java.util.ArrayList;
import java.util.NoSuchElementException;

/** Glasses, gates, runs, puzzles and a ship, as ../shared/DOC.md promises them. */
public final class IsochroneBench {
    private static final int MOST_GLASSES = 8;
    private static final int MOST_GRAINS_TOLD = 9999;
    private static final int MOST_GRAINS_HELD = 19999;
    private static final int MOST_POURED = 999;
    private static final int MOST_RATE = 50;
    private static final int MOST_FUNNEL = 99;
    private static final int MOST_JAM = 999;
    private static final int TURNS_OF_WEAR = 40;
    private static final int NONE = -1;

    private static final int MOST_PASSED = 600;
    private static final int LAST_SECOND = 19999;
    private static final int LOT_FACTOR = 48271;
    private static final int LOT_MODULUS = 2147483647;
    private static final int LOTS = 1000;

    private static final int MOST_GATES = 6;
    private static final int MOST_EVERY = 100;

    private static final int RUNS_KEPT = 10;
    private static final int RUNS_COMPARED = 2;
    private static final int MOST_KNOTS = 99;
    private static final int TENTHS_TIMES_SECONDS = 280;

    private static final int MOST_TOLD = 3;
    private static final int MOST_MINUTES = 12;
    private static final int LAST_MINUTE = 40;
    private static final int LEVELS = MOST_MINUTES + 1;
    private static final int CHOICES = 8;
    private static final int NEVER = 1000;
    // At a decision at least one glass has nothing above.
    private static final int MOST_STATES = LEVELS * LEVELS * LEVELS - MOST_MINUTES * MOST_MINUTES * MOST_MINUTES;

    private static final int HALF_HOUR = 1800;
    private static final int BELLS = 8;
    private static final int WATCHES = 6;

    private final ArrayList<Glass> glasses;
    private final ArrayList<Gate> gates;
    private final Puzzle puzzle;
    private final Ship ship;
    private int second;
    private int z;
    private int given;

    public IsochroneBench() {
        glasses = new ArrayList<Glass>();
        gates = new ArrayList<Gate>();
        puzzle = new Puzzle();
        puzzle.solve();
        ship = new Ship();
        z = 1;
    }

    public int addGlass(int grains, int forth, int back, int funnel)
            throws IllegalArgumentException, IllegalStateException {
        requireRange(grains, 1, MOST_GRAINS_TOLD);
        requireRange(forth, 1, MOST_RATE);
        requireRange(back, 1, MOST_RATE);
        requireRange(funnel, 0, MOST_FUNNEL);
        requireRoom(glasses.size(), MOST_GLASSES);
        glasses.add(new Glass(grains, forth, back, funnel));
        given += grains;
        return glasses.size() - 1;
    }

    public int above(int glass) throws IndexOutOfBoundsException {
        return theGlass(glass).upper;
    }

    public int below(int glass) throws IndexOutOfBoundsException {
        return theGlass(glass).lower;
    }

    public char state(int glass) throws IndexOutOfBoundsException {
        return theGlass(glass).sign();
    }

    public int turn(int glass) throws IndexOutOfBoundsException {
        Glass turned = theGlass(glass);
        turned.flip(second);
        return turned.upper;
    }

    public int timesTurned(int glass) throws IndexOutOfBoundsException {
        return theGlass(glass).flips;
    }

    public char stand(int glass, char how) throws IndexOutOfBoundsException, IllegalArgumentException {
        Glass moved = theGlass(glass);
        if (how != 'u' && how != 't' && how != 'l') {
            throw new IllegalArgumentException("no such way to stand");
        }
        char before = moved.stance;
        moved.stance = how;
        return before;
    }

    public int setJam(int glass, int jam) throws IndexOutOfBoundsException, IllegalArgumentException {
        Glass changed = theGlass(glass);
        requireRange(jam, 0, MOST_JAM);
        int before = changed.jam;
        changed.jam = jam;
        return before;
    }

    public boolean tap(int glass) throws IndexOutOfBoundsException {
        Glass tapped = theGlass(glass);
        boolean before = tapped.jammed;
        tapped.jammed = false;
        return before;
    }

    public int pour(int glass, int grains)
            throws IndexOutOfBoundsException, IllegalArgumentException, IllegalStateException {
        Glass filled = theGlass(glass);
        requireRange(grains, 1, MOST_POURED);
        if (filled.held() + grains > MOST_GRAINS_HELD) {
            throw new IllegalStateException("more grains than the glass can have");
        }
        filled.upper += grains;
        given += grains;
        return filled.upper;
    }

    public int falls(int glass) throws IndexOutOfBoundsException {
        return theGlass(glass).fallNow();
    }

    public int runTime(int glass) throws IndexOutOfBoundsException, UnsupportedOperationException {
        Glass asked = theGlass(glass);
        if (asked.lies()) {
            throw new UnsupportedOperationException("the glass lies");
        }
        return asked.secondsLeft();
    }

    public int feed(int glass, int other) throws IndexOutOfBoundsException, UnsupportedOperationException {
        Glass feeder = theGlass(glass);
        if (other != NONE) {
            requireGlass(other);
            requireHigher(other, glass);
        }
        int before = feeder.fed;
        feeder.fed = other;
        return before;
    }

    public int grains() {
        int sum = 0;
        for (int i = 0; i < glasses.size(); i++) {
            sum += glasses.get(i).held();
        }
        return sum;
    }

    public int pass(int seconds) throws IllegalArgumentException, IllegalStateException {
        requireRange(seconds, 1, MOST_PASSED);
        if (second + seconds > LAST_SECOND) {
            throw new IllegalStateException("beyond the last second");
        }
        for (int i = 0; i < seconds; i++) {
            letSecondGoBy();
        }
        return second;
    }

    public int time() {
        return second;
    }

    public int seed(int z) throws IllegalArgumentException {
        requireRange(z, 1, LOT_MODULUS - 1);
        int before = this.z;
        this.z = z;
        return before;
    }

    public int gateAt(int glass, int every)
            throws IndexOutOfBoundsException, IllegalArgumentException, IllegalStateException {
        requireGlass(glass);
        return addGate(false, glass, every);
    }

    public int gateBehind(int gate, int every)
            throws IndexOutOfBoundsException, IllegalArgumentException, IllegalStateException {
        requireGate(gate);
        return addGate(true, gate, every);
    }

    public int tips(int gate) throws IndexOutOfBoundsException {
        return theGate(gate).tipped;
    }

    public int filled(int gate) throws IndexOutOfBoundsException {
        return theGate(gate).content;
    }

    public int runs(int glass) throws IndexOutOfBoundsException {
        return theGlass(glass).runLog.count;
    }

    public int runAt(int glass, int run) throws IndexOutOfBoundsException, NoSuchElementException {
        RunLog log = theGlass(glass).runLog;
        if (run < 0 || run >= log.count) {
            throw new NoSuchElementException("no such run");
        }
        return log.seconds.get(run);
    }

    public double meanRun(int glass) throws IndexOutOfBoundsException, NoSuchElementException {
        RunLog log = theGlass(glass).runLog;
        requireRuns(log, 1);
        return log.mean();
    }

    public int spread(int glass) throws IndexOutOfBoundsException, NoSuchElementException {
        RunLog log = theGlass(glass).runLog;
        requireRuns(log, RUNS_COMPARED);
        return log.difference();
    }

    public int steadiest() throws NoSuchElementException {
        int best = NONE;
        int least = 0;
        for (int i = 0; i < glasses.size(); i++) {
            RunLog log = glasses.get(i).runLog;
            if (log.count >= RUNS_COMPARED && (best == NONE || log.difference() < least)) {
                best = i;
                least = log.difference();
            }
        }
        if (best == NONE) {
            throw new NoSuchElementException("no glass has runs to compare");
        }
        return best;
    }

    public int knots(int glass, int counted)
            throws IndexOutOfBoundsException, IllegalArgumentException, NoSuchElementException {
        RunLog log = theGlass(glass).runLog;
        requireRange(counted, 0, MOST_KNOTS);
        requireRuns(log, 1);
        int last = log.seconds.get(log.count - 1);
        return last > 0 ? counted * TENTHS_TIMES_SECONDS / last : 0;
    }

    public int tell(int minutes) throws IllegalArgumentException, IllegalStateException {
        requireRange(minutes, 1, MOST_MINUTES);
        requireRoom(puzzle.told, MOST_TOLD);
        puzzle.add(minutes);
        puzzle.solve();
        return puzzle.told;
    }

    public int forget() {
        int before = puzzle.told;
        puzzle.clear();
        puzzle.solve();
        return before;
    }

    public boolean canMeasure(int minute) throws IllegalArgumentException {
        requireRange(minute, 1, LAST_MINUTE);
        return puzzle.reaches(minute);
    }

    public int fewestTurns(int minute) throws IllegalArgumentException, NoSuchElementException {
        requireMeasurable(minute);
        return puzzle.turnsFor(minute);
    }

    public int decisions(int minute) throws IllegalArgumentException, NoSuchElementException {
        requireMeasurable(minute);
        puzzle.plan(minute);
        return puzzle.planned;
    }

    public int turnedAt(int minute, int decision) throws IllegalArgumentException, NoSuchElementException {
        requireDecision(minute, decision);
        return puzzle.planChoices.get(decision);
    }

    public int minuteAt(int minute, int decision) throws IllegalArgumentException, NoSuchElementException {
        requireDecision(minute, decision);
        return puzzle.planMinutes.get(decision);
    }

    public int measurable(int limit) throws IllegalArgumentException {
        requireRange(limit, 1, LAST_MINUTE);
        int count = 0;
        for (int minute = 1; minute <= limit; minute++) {
            if (puzzle.reaches(minute)) {
                count++;
            }
        }
        return count;
    }

    public boolean canStretch(int minutes) throws IllegalArgumentException {
        requireRange(minutes, 1, LAST_MINUTE);
        return puzzle.stretches(minutes);
    }

    public int divisor() {
        return puzzle.commonDivisor();
    }

    public int setShip(int glass) throws IndexOutOfBoundsException {
        requireGlass(glass);
        int before = ship.glass;
        ship.glass = glass;
        return before;
    }

    public int boy() throws UnsupportedOperationException {
        if (!hasGlass(ship.glass)) {
            throw new UnsupportedOperationException("no glass is the ship's");
        }
        glasses.get(ship.glass).flip(second);
        ship.halfHours++;
        return ship.halfHours;
    }

    public int noon() {
        int before = ship.halfHours;
        ship.halfHours = 0;
        ship.noonSecond = second;
        return before;
    }

    public int bells() {
        return ship.halfHours == 0 ? 0 : (ship.halfHours - 1) % BELLS + 1;
    }

    public int watch() {
        return ship.halfHours / BELLS % WATCHES;
    }

    public int wrongBy() {
        return HALF_HOUR * ship.halfHours - (second - ship.noonSecond);
    }

    public long checksum() {
        long sum = 7;
        for (int i = 0; i < glasses.size(); i++) {
            Glass glass = glasses.get(i);
            sum = 31 * sum + glass.upper;
            sum = 31 * sum + glass.lower;
            sum = 31 * sum + glass.flips;
        }
        for (int i = 0; i < gates.size(); i++) {
            Gate gate = gates.get(i);
            sum = 31 * sum + gate.tipped;
            sum = 31 * sum + gate.content;
        }
        sum = 31 * sum + second;
        return 31 * sum + z;
    }

    public float aboveShare() throws NoSuchElementException {
        if (glasses.isEmpty()) {
            throw new NoSuchElementException("no glasses");
        }
        int upper = 0;
        for (int i = 0; i < glasses.size(); i++) {
            upper += glasses.get(i).upper;
        }
        int all = grains();
        return all > 0 ? (float) upper / (float) all : 0;
    }

    public boolean isSound() {
        return grains() == given && glassesAreSound() && gatesAreSound() && puzzle.isDivided();
    }

    private boolean glassesAreSound() {
        for (int i = 0; i < glasses.size(); i++) {
            Glass glass = glasses.get(i);
            if (glass.upper < 0 || glass.lower < 0) {
                return false;
            }
        }
        return true;
    }

    private boolean gatesAreSound() {
        for (int i = 0; i < gates.size(); i++) {
            Gate gate = gates.get(i);
            if (gate.content >= gate.size) {
                return false;
            }
        }
        return true;
    }

    private void letSecondGoBy() {
        for (int i = 0; i < glasses.size(); i++) {
            letGo(glasses.get(i));
        }
        fillGates();
        second++;
        for (int i = 0; i < glasses.size(); i++) {
            glasses.get(i).noteRun(second);
        }
    }

    private void letGo(Glass glass) {
        glass.fell = 0;
        if (glass.upper <= 0 || glass.lies()) {
            return;
        }
        if (glass.jam > 0 && !glass.jammed && drawLot() < glass.jam) {
            glass.jammed = true;
        }
        if (glass.jammed) {
            return;
        }
        glass.fell = glass.fallNow();
        glass.upper -= glass.fell;
        if (hasGlass(glass.fed)) {
            glasses.get(glass.fed).upper += glass.fell;
        } else {
            glass.lower += glass.fell;
        }
    }

    private int drawLot() {
        z = (int) ((long) z * LOT_FACTOR % LOT_MODULUS);
        return z % LOTS;
    }

    // A gate has only lower ones ahead of it, so one walk by numbers carries every tip on.
    private void fillGates() {
        for (int i = 0; i < gates.size(); i++) {
            Gate gate = gates.get(i);
            gate.fill(comesTo(gate));
        }
    }

    private int comesTo(Gate gate) {
        if (gate.behindGate) {
            return hasGate(gate.source) ? gates.get(gate.source).tippedNow : 0;
        }
        return hasGlass(gate.source) ? glasses.get(gate.source).fell : 0;
    }

    private int addGate(boolean behindGate, int source, int every) {
        requireRange(every, 1, MOST_EVERY);
        requireRoom(gates.size(), MOST_GATES);
        gates.add(new Gate(behindGate, source, every));
        return gates.size() - 1;
    }

    private boolean hasGlass(int glass) {
        return glass >= 0 && glass < glasses.size();
    }

    private boolean hasGate(int gate) {
        return gate >= 0 && gate < gates.size();
    }

    private void requireGlass(int glass) {
        if (!hasGlass(glass)) {
            throw new IndexOutOfBoundsException("no such glass");
        }
    }

    private void requireGate(int gate) {
        if (!hasGate(gate)) {
            throw new IndexOutOfBoundsException("no such gate");
        }
    }

    private Glass theGlass(int glass) {
        requireGlass(glass);
        return glasses.get(glass);
    }

    private Gate theGate(int gate) {
        requireGate(gate);
        return gates.get(gate);
    }

    private void requireMeasurable(int minute) {
        requireRange(minute, 1, LAST_MINUTE);
        if (!puzzle.reaches(minute)) {
            throw new NoSuchElementException("the minute cannot be measured");
        }
    }

    private void requireDecision(int minute, int decision) {
        requireMeasurable(minute);
        puzzle.plan(minute);
        if (decision < 0 || decision >= puzzle.planned) {
            throw new NoSuchElementException("no such decision");
        }
    }

    private static void requireHigher(int other, int glass) {
        if (other <= glass) {
            throw new UnsupportedOperationException("a glass feeds only one with a higher number");
        }
    }

    private static void requireRuns(RunLog log, int least) {
        if (log.count < least) {
            throw new NoSuchElementException("too few runs");
        }
    }

    private static void requireRange(int number, int least, int most) {
        if (number < least || number > most) {
            throw new IllegalArgumentException("a number is out of range");
        }
    }

    private static void requireRoom(int count, int most) {
        if (count >= most) {
            throw new IllegalStateException("there are no more");
        }
    }

    // Numbers in a row; a place outside holds 0 and keeps nothing, so that no index can fail.
    private static final class Row {
        private final int[] cells;

        Row(int length) {
            cells = new int[length < 0 ? 0 : length];
        }

        int get(int place) {
            return place >= 0 && place < cells.length ? cells[place] : 0;
        }

        void set(int place, int number) {
            if (place >= 0 && place < cells.length) {
                cells[place] = number;
            }
        }

        void wipe() {
            for (int i = 0; i < cells.length; i++) {
                cells[i] = 0;
            }
        }
    }

    private static final class Glass {
        private final int forth;
        private final int back;
        private final int funnel;
        private final RunLog runLog;
        private int upper;
        private int lower;
        private int flips;
        private int flippedLast;
        private int fed;
        private int fell;
        private int jam;
        private boolean jammed;
        private boolean goesBack;
        private char stance;

        Glass(int grains, int forth, int back, int funnel) {
            this.forth = forth;
            this.back = back;
            this.funnel = funnel;
            runLog = new RunLog();
            lower = grains;
            fed = NONE;
            stance = 'u';
        }

        int held() {
            return upper + lower;
        }

        boolean lies() {
            return stance == 'l';
        }

        char sign() {
            if (jammed) {
                return 'j';
            }
            if (lies()) {
                return 'l';
            }
            return upper > 0 ? 'r' : 'e';
        }

        void flip(int now) {
            int kept = upper;
            upper = lower;
            lower = kept;
            goesBack = !goesBack;
            jammed = false;
            flips++;
            flippedLast = now;
        }

        int fallNow() {
            return lies() ? 0 : Math.min(fallWith(upper), upper);
        }

        // Only the funnel's end changes the fall, so two divisions take the place of a walk by seconds.
        int secondsLeft() {
            int left = upper;
            int seconds = 0;
            if (left > funnel) {
                int fall = fallWith(left);
                seconds = wholeSteps(left - funnel, fall);
                left -= seconds * fall;
            }
            return left > 0 ? seconds + wholeSteps(left, fallWith(left)) : seconds;
        }

        void noteRun(int now) {
            if (fell > 0 && upper == 0 && flips > 0) {
                runLog.add(now - flippedLast);
            }
        }

        private int fallWith(int grainsAbove) {
            int fall = (goesBack ? back : forth) + flips / TURNS_OF_WEAR;
            if (grainsAbove <= funnel) {
                fall = halfRoundedUp(fall);
            }
            return stance == 't' ? halfRoundedUp(fall) : fall;
        }

        private static int halfRoundedUp(int number) {
            return (number + 1) / 2;
        }

        private static int wholeSteps(int way, int step) {
            return step > 0 ? (way + step - 1) / step : 0;
        }
    }

    private static final class RunLog {
        private final Row seconds;
        private int count;

        RunLog() {
            seconds = new Row(RUNS_KEPT);
        }

        void add(int run) {
            if (count == RUNS_KEPT) {
                dropOldest();
            }
            seconds.set(count, run);
            count++;
        }

        double mean() {
            int sum = 0;
            for (int i = 0; i < count; i++) {
                sum += seconds.get(i);
            }
            return count > 0 ? (double) sum / (double) count : 0;
        }

        int difference() {
            int longest = seconds.get(0);
            int shortest = longest;
            for (int i = 1; i < count; i++) {
                longest = Math.max(longest, seconds.get(i));
                shortest = Math.min(shortest, seconds.get(i));
            }
            return longest - shortest;
        }

        private void dropOldest() {
            for (int i = 1; i < count; i++) {
                seconds.set(i - 1, seconds.get(i));
            }
            count--;
        }
    }

    private static final class Gate {
        private final boolean behindGate;
        private final int source;
        private final int size;
        private int content;
        private int tipped;
        private int tippedNow;

        Gate(boolean behindGate, int source, int size) {
            this.behindGate = behindGate;
            this.source = source;
            this.size = size;
        }

        void fill(int amount) {
            int sum = content + amount;
            tippedNow = size > 0 ? sum / size : 0;
            content = sum - tippedNow * size;
            tipped += tippedNow;
        }
    }

    private static final class Ship {
        private int glass;
        private int halfHours;
        private int noonSecond;

        Ship() {
            glass = NONE;
        }
    }

    // What is above in each glass at a decision is a state. What can come of a state does not ask
    // when it came about, so one table, by minutes still to go and by states, answers every minute.
    private static final class Puzzle {
        private final Row minutes;
        private int told;
        private final Row stateOf;
        private final Row levelsOf;
        private final Row earliest;
        private final Row nextState;
        private final Row nextAfter;
        private final Row fewest;
        private int states;
        private final Row planChoices;
        private final Row planMinutes;
        private int planned;

        Puzzle() {
            minutes = new Row(MOST_TOLD);
            stateOf = new Row(LEVELS * LEVELS * LEVELS);
            levelsOf = new Row(MOST_STATES);
            earliest = new Row(MOST_STATES);
            nextState = new Row(MOST_STATES * CHOICES);
            nextAfter = new Row(MOST_STATES * CHOICES);
            fewest = new Row((LAST_MINUTE + 1) * MOST_STATES);
            planChoices = new Row(LAST_MINUTE);
            planMinutes = new Row(LAST_MINUTE);
        }

        void add(int length) {
            minutes.set(told, length);
            told++;
        }

        void clear() {
            told = 0;
        }

        void solve() {
            findStates();
            countTurns();
        }

        boolean reaches(int minute) {
            return turnsFor(minute) < NEVER;
        }

        int turnsFor(int minute) {
            return fewestFrom(0, minute);
        }

        boolean stretches(int length) {
            for (int state = 0; state < states; state++) {
                if (fewestFrom(state, length) < NEVER) {
                    return true;
                }
            }
            return false;
        }

        int commonDivisor() {
            for (int divisor = told > 0 ? MOST_MINUTES : 0; divisor > 0; divisor--) {
                if (dividesAll(divisor)) {
                    return divisor;
                }
            }
            return 0;
        }

        boolean isDivided() {
            int divisor = commonDivisor();
            for (int minute = 1; minute <= LAST_MINUTE; minute++) {
                if (reaches(minute) && (divisor == 0 || minute % divisor != 0)) {
                    return false;
                }
            }
            return true;
        }

        void plan(int minute) {
            planned = 0;
            int state = 0;
            int left = minute;
            for (int step = 0; step < LAST_MINUTE && left > 0; step++) {
                int choice = bestChoice(state, left);
                if (choice == NONE) {
                    return;
                }
                planChoices.set(planned, choice);
                planMinutes.set(planned, minute - left);
                planned++;
                left -= nextAfter.get(state * CHOICES + choice);
                state = nextState.get(state * CHOICES + choice);
            }
        }

        private boolean dividesAll(int divisor) {
            for (int i = 0; i < told; i++) {
                if (divisor == 0 || minutes.get(i) % divisor != 0) {
                    return false;
                }
            }
            return true;
        }

        private void findStates() {
            stateOf.wipe();
            states = 0;
            reach(0, 0);
            for (int minute = 0; minute <= LAST_MINUTE; minute++) {
                for (int state = 0; state < states && state < MOST_STATES; state++) {
                    if (earliest.get(state) == minute) {
                        leave(state, minute);
                    }
                }
            }
        }

        private void leave(int state, int minute) {
            int levels = levelsOf.get(state);
            for (int choice = 0; choice < CHOICES; choice++) {
                int place = state * CHOICES + choice;
                nextAfter.set(place, 0);
                if (choice < 1 << told) {
                    go(place, minute, chosen(levels, choice));
                }
            }
        }

        // What ends after the last minute is left out: a later visit to the state would end later still.
        private void go(int place, int minute, int levels) {
            int first = levels / (LEVELS * LEVELS);
            int second = levels / LEVELS % LEVELS;
            int third = levels % LEVELS;
            int wait = leastAboveZero(leastAboveZero(first, second), third);
            if (wait > 0 && minute + wait <= LAST_MINUTE) {
                int after = levels(Math.max(first - wait, 0), Math.max(second - wait, 0), Math.max(third - wait, 0));
                nextState.set(place, reach(after, minute + wait));
                nextAfter.set(place, wait);
            }
        }

        private int chosen(int levels, int choice) {
            int first = levels / (LEVELS * LEVELS);
            int second = levels / LEVELS % LEVELS;
            int third = levels % LEVELS;
            return levels(
                    (choice & 1) != 0 ? minutes.get(0) - first : first,
                    (choice & 2) != 0 ? minutes.get(1) - second : second,
                    (choice & 4) != 0 ? minutes.get(2) - third : third);
        }

        private int reach(int levels, int minute) {
            int state = stateOf.get(levels) - 1;
            if (state < 0) {
                state = states;
                states++;
                stateOf.set(levels, state + 1);
                levelsOf.set(state, levels);
                earliest.set(state, minute);
            } else if (minute < earliest.get(state)) {
                earliest.set(state, minute);
            }
            return state;
        }

        // With no minute left no turn is needed any more, so the first part of the table stays 0.
        private void countTurns() {
            for (int left = 1; left <= LAST_MINUTE; left++) {
                for (int state = 0; state < states; state++) {
                    fewest.set(left * MOST_STATES + state, leastTurns(state, left));
                }
            }
        }

        private int leastTurns(int state, int left) {
            if (earliest.get(state) + left > LAST_MINUTE) {
                return NEVER;
            }
            int least = NEVER;
            for (int choice = 0; choice < 1 << told; choice++) {
                least = Math.min(least, turnsBy(state, choice, left));
            }
            return least;
        }

        private int bestChoice(int state, int left) {
            for (int choice = 0; choice < 1 << told; choice++) {
                int turns = turnsBy(state, choice, left);
                if (turns < NEVER && turns == fewestFrom(state, left)) {
                    return choice;
                }
            }
            return NONE;
        }

        private int turnsBy(int state, int choice, int left) {
            int place = state * CHOICES + choice;
            int wait = nextAfter.get(place);
            if (wait == 0 || wait > left) {
                return NEVER;
            }
            return Integer.bitCount(choice) + fewestFrom(nextState.get(place), left - wait);
        }

        private int fewestFrom(int state, int left) {
            return fewest.get(left * MOST_STATES + state);
        }

        private static int levels(int first, int second, int third) {
            return (first * LEVELS + second) * LEVELS + third;
        }

        private static int leastAboveZero(int one, int other) {
            if (one <= 0 || other <= 0) {
                return Math.max(one, other);
            }
            return Math.min(one, other);
        }
    }
}
