import java.util.Random;
import java.util.function.Supplier;

/** Runs of 512 calls, most of their numbers at a border: the bench answers each as PlainBench does. */
public final class SideBySideTest {
    private static final int CALLS = 512;
    private static final int[] RANGES = {0, 1, 2, 3, 5, 6, 7, 8, 9, 10, 11, 12, 13, 39, 40, 41, 49, 50, 51, 98, 99, 100,
        101, 599, 600, 601, 998, 999, 1000, 9998, 9999, 10000, -1, -2, Integer.MIN_VALUE, Integer.MAX_VALUE};
    private static final Check CHECK = new Check("SideBySideTest");

    private final Random random;
    private final String run;
    private final IsochroneBench bench = new IsochroneBench();
    private final PlainBench plain = new PlainBench();
    private final int glasses;
    private int calls;

    private SideBySideTest(int seed) {
        random = new Random(seed);
        run = "run " + seed;
        glasses = 1 + random.nextInt(8);
    }

    public static void main(String[] args) {
        for (int seed = 0; seed < 400; seed++) {
            new SideBySideTest(seed).goThrough();
        }
        CHECK.end();
    }

    private void goThrough() {
        boolean puzzles = random.nextInt(6) == 0;
        boolean longOnes = random.nextInt(4) == 0;
        for (int i = 0; i < glasses && i < 7; i++) {
            addGlass();
        }
        if (random.nextInt(8) == 0) {
            nearlyFill();
        }
        if (random.nextInt(8) == 0) {
            nearTheLastSecond();
        }
        while (calls < CALLS - 3) {
            switch (random.nextInt(puzzles ? 16 : 8)) {
                case 0, 1, 2 -> change(random.nextInt(10));
                case 3 -> pass(longOnes ? 600 : 9);
                case 4, 5 -> look(random.nextInt(12));
                case 6 -> gateOrSeed(random.nextInt(6));
                case 7 -> ship(random.nextInt(8));
                default -> puzzle(random.nextInt(11));
            }
        }
        both("checksum", bench::checksum, plain::checksum);
        both("isSound", bench::isSound, () -> true);
    }

    private void nearlyFill() {
        int filled = random.nextInt(glasses);
        both("stand", () -> bench.stand(filled, 'l'), () -> plain.stand(filled, 'l'));
        for (int i = 0; i < 19; i++) {
            both("pour", () -> bench.pour(filled, 999), () -> plain.pour(filled, 999));
        }
    }

    private void nearTheLastSecond() {
        for (int i = 0; i < 33; i++) {
            both("pass", () -> bench.pass(600), () -> plain.pass(600));
        }
    }

    private int odd(int least, int most) {
        boolean wild = random.nextInt(16) == 0;
        return wild ? RANGES[random.nextInt(RANGES.length)] : least + random.nextInt(most - least + 1);
    }

    private int edge(int least, int most) {
        return switch (random.nextInt(4)) {
            case 0 -> least;
            case 1 -> most;
            default -> odd(least, most);
        };
    }

    private int glass() {
        return random.nextInt(40) == 0 ? odd(-1, 8) : random.nextInt(glasses);
    }

    private void addGlass() {
        int grains = random.nextInt(4) == 0 ? edge(1, 9999) : odd(1, 60);
        int forth = edge(1, 50);
        int back = odd(1, 9);
        int funnel = edge(0, 99);
        both("addGlass " + grains + " " + forth + " " + back + " " + funnel,
                () -> bench.addGlass(grains, forth, back, funnel), () -> plain.addGlass(grains, forth, back, funnel));
    }

    private void change(int which) {
        int g = glass();
        int jam = random.nextInt(3) == 0 ? 0 : edge(0, 999);
        int grains = random.nextInt(3) == 0 ? edge(1, 999) : odd(1, 30);
        int other = random.nextInt(3) == 0 ? -1 : odd(-1, glasses);
        char how = "utltux".charAt(random.nextInt(6));
        switch (which) {
            case 0, 1, 2 -> both("turn " + g, () -> bench.turn(g), () -> plain.turn(g));
            case 3 -> both("stand " + g + how, () -> bench.stand(g, how), () -> plain.stand(g, how));
            case 4 -> both("setJam " + g + " " + jam, () -> bench.setJam(g, jam), () -> plain.setJam(g, jam));
            case 5 -> both("tap " + g, () -> bench.tap(g), () -> plain.tap(g));
            case 6, 7 -> both("pour " + g + " " + grains, () -> bench.pour(g, grains), () -> plain.pour(g, grains));
            case 8 -> both("feed " + g + " " + other, () -> bench.feed(g, other), () -> plain.feed(g, other));
            default -> {
                if (random.nextInt(5) == 0) {
                    addGlass();
                }
            }
        }
    }

    private void pass(int most) {
        int seconds = random.nextInt(3) == 0 ? 1 : odd(1, most);
        both("pass " + seconds, () -> bench.pass(seconds), () -> plain.pass(seconds));
    }

    private void look(int which) {
        int g = glass();
        int run = odd(0, 10);
        int counted = edge(0, 99);
        switch (which) {
            case 0 -> both("above " + g, () -> bench.above(g), () -> plain.above(g));
            case 1 -> both("below " + g, () -> bench.below(g), () -> plain.below(g));
            case 2 -> both("state " + g, () -> bench.state(g), () -> plain.state(g));
            case 3 -> both("timesTurned " + g, () -> bench.timesTurned(g), () -> plain.timesTurned(g));
            case 4 -> both("falls " + g, () -> bench.falls(g), () -> plain.falls(g));
            case 5 -> both("runTime " + g, () -> bench.runTime(g), () -> plain.runTime(g));
            case 6 -> both("runs " + g, () -> bench.runs(g), () -> plain.runs(g));
            case 7 -> both("runAt " + g + " " + run, () -> bench.runAt(g, run), () -> plain.runAt(g, run));
            case 8 -> both("meanRun " + g, () -> bench.meanRun(g), () -> plain.meanRun(g));
            case 9 -> both("spread " + g, () -> bench.spread(g), () -> plain.spread(g));
            case 10 -> both("steadiest", bench::steadiest, plain::steadiest);
            default -> both("knots " + g + " " + counted, () -> bench.knots(g, counted), () -> plain.knots(g, counted));
        }
    }

    private void gateOrSeed(int which) {
        int g = glass();
        int gate = odd(0, 5);
        int every = random.nextBoolean() ? odd(1, 9) : edge(1, 100);
        int z = edge(1, 2147483646);
        switch (which) {
            case 0 -> both("gateAt " + g + " " + every, () -> bench.gateAt(g, every), () -> plain.gateAt(g, every));
            case 1 -> both("gateBehind " + gate + " " + every, () -> bench.gateBehind(gate, every),
                    () -> plain.gateBehind(gate, every));
            case 2 -> both("tips " + gate, () -> bench.tips(gate), () -> plain.tips(gate));
            case 3 -> both("filled " + gate, () -> bench.filled(gate), () -> plain.filled(gate));
            case 4 -> both("seed " + z, () -> bench.seed(z), () -> plain.seed(z));
            default -> both("checksum", bench::checksum, plain::checksum);
        }
    }

    private void ship(int which) {
        int g = glass();
        switch (which) {
            case 0 -> both("setShip " + g, () -> bench.setShip(g), () -> plain.setShip(g));
            case 1, 2 -> both("boy", bench::boy, plain::boy);
            case 3 -> both("bells", bench::bells, plain::bells);
            case 4 -> both("watch", bench::watch, plain::watch);
            case 5 -> both("wrongBy", bench::wrongBy, plain::wrongBy);
            case 6 -> both("aboveShare", bench::aboveShare, plain::aboveShare);
            default -> {
                if (random.nextInt(12) == 0) {
                    both("noon", bench::noon, plain::noon);
                } else {
                    both("grains, time", () -> bench.grains() + " " + bench.time(),
                            () -> plain.grains() + " " + plain.time());
                    calls++;
                }
            }
        }
    }

    private void puzzle(int which) {
        int minute = edge(1, 40);
        int decision = odd(0, 6);
        int minutes = odd(1, 12);
        switch (which) {
            case 0, 1 -> both("tell " + minutes, () -> bench.tell(minutes), () -> plain.tell(minutes));
            case 2 -> {
                if (random.nextInt(4) == 0) {
                    both("forget", bench::forget, plain::forget);
                }
            }
            case 3 -> both("canMeasure " + minute, () -> bench.canMeasure(minute), () -> plain.canMeasure(minute));
            case 4 -> both("fewestTurns " + minute, () -> bench.fewestTurns(minute), () -> plain.fewestTurns(minute));
            case 5 -> both("decisions " + minute, () -> bench.decisions(minute), () -> plain.decisions(minute));
            case 6 -> both("turnedAt " + minute + " " + decision, () -> bench.turnedAt(minute, decision),
                    () -> plain.turnedAt(minute, decision));
            case 7 -> both("minuteAt " + minute + " " + decision, () -> bench.minuteAt(minute, decision),
                    () -> plain.minuteAt(minute, decision));
            case 8 -> both("measurable " + minute, () -> bench.measurable(minute), () -> plain.measurable(minute));
            case 9 -> both("canStretch " + minute, () -> bench.canStretch(minute), () -> plain.canStretch(minute));
            default -> both("divisor", bench::divisor, plain::divisor);
        }
    }

    private void both(String call, Supplier<Object> got, Supplier<Object> want) {
        calls++;
        CHECK.due(run + ", call " + calls + ", " + call, answer(got, true), answer(want, false));
    }

    private static Object answer(Supplier<Object> call, boolean ofTheBench) {
        try {
            return call.get();
        } catch (RuntimeException e) {
            return ofTheBench ? Check.nameOf(e) : e.getClass().getSimpleName();
        }
    }
}
