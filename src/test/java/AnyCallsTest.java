import java.util.Random;
import java.util.Set;

/** Any calls with any numbers: each throws only what the document names for it, and the bench stays sound. */
public final class AnyCallsTest {
    private static final int[] ODD = {Integer.MIN_VALUE, Integer.MIN_VALUE + 1, -41, -2, -1, 0, 1, 2, 40, 41, 100, 999,
        1000, 2147483646, Integer.MAX_VALUE};
    private static final String INDEX = "IndexOutOfBoundsException";
    private static final String ARGUMENT = "IllegalArgumentException";
    private static final String STATE = "IllegalStateException";
    private static final String UNSUPPORTED = "UnsupportedOperationException";
    private static final String ELEMENT = "NoSuchElementException";
    private static final Check CHECK = new Check("AnyCallsTest");

    private final Random random;
    private final IsochroneBench bench = new IsochroneBench();

    private AnyCallsTest(int seed) {
        random = new Random(seed);
    }

    public static void main(String[] args) {
        for (int seed = 0; seed < 900; seed++) {
            String one = new AnyCallsTest(seed).run();
            CHECK.due("the same calls again, " + seed, new AnyCallsTest(seed).run(), one);
        }
        CHECK.end();
    }

    private String run() {
        for (int i = 0; i < 160; i++) {
            if (random.nextInt(2) == 0) {
                glassCall(random.nextInt(17));
            } else {
                otherCall(random.nextInt(28));
            }
        }
        CHECK.due("isSound", bench.isSound(), true);
        return bench.checksum() + " " + bench.grains() + " " + bench.wrongBy();
    }

    private int number(int most) {
        return random.nextInt(12) == 0 ? ODD[random.nextInt(ODD.length)] : random.nextInt(most + 2);
    }

    private void glassCall(int which) {
        int glass = number(5);
        switch (which) {
            case 0 -> only(() -> bench.addGlass(number(300), number(50), number(50), number(99)), ARGUMENT, STATE);
            case 1 -> only(() -> bench.above(glass), INDEX);
            case 2 -> only(() -> bench.below(glass), INDEX);
            case 3 -> only(() -> bench.state(glass), INDEX);
            case 4, 5 -> only(() -> bench.turn(glass), INDEX);
            case 6 -> only(() -> bench.timesTurned(glass), INDEX);
            case 7 -> only(() -> bench.stand(glass, "utlx".charAt(random.nextInt(4))), INDEX, ARGUMENT);
            case 8 -> only(() -> bench.setJam(glass, number(999)), INDEX, ARGUMENT);
            case 9 -> only(() -> bench.tap(glass), INDEX);
            case 10 -> only(() -> bench.pour(glass, number(999)), INDEX, ARGUMENT, STATE);
            case 11 -> only(() -> bench.falls(glass), INDEX);
            case 12 -> only(() -> bench.runTime(glass), INDEX, UNSUPPORTED);
            case 13 -> only(() -> bench.feed(glass, number(8) - 1), INDEX, UNSUPPORTED);
            case 14 -> only(() -> bench.gateAt(glass, number(100)), INDEX, ARGUMENT, STATE);
            case 15 -> only(() -> bench.knots(glass, number(99)), INDEX, ARGUMENT, ELEMENT);
            default -> only(() -> bench.setShip(glass), INDEX);
        }
    }

    private void otherCall(int which) {
        int glass = number(5);
        int minute = number(40);
        switch (which) {
            case 0 -> only(() -> bench.grains());
            case 1 -> only(() -> bench.time());
            case 2, 3 -> only(() -> bench.pass(number(100)), ARGUMENT, STATE);
            case 4 -> only(() -> bench.seed(number(9)), ARGUMENT);
            case 5 -> only(() -> bench.gateBehind(number(3), number(100)), INDEX, ARGUMENT, STATE);
            case 6 -> only(() -> bench.tips(number(5)), INDEX);
            case 7 -> only(() -> bench.filled(number(5)), INDEX);
            case 8 -> only(() -> bench.runs(glass), INDEX);
            case 9 -> only(() -> bench.runAt(glass, number(9)), INDEX, ELEMENT);
            case 10 -> only(() -> bench.meanRun(glass), INDEX, ELEMENT);
            case 11 -> only(() -> bench.spread(glass), INDEX, ELEMENT);
            case 12 -> only(() -> bench.steadiest(), ELEMENT);
            case 13 -> only(() -> bench.tell(number(12)), ARGUMENT, STATE);
            case 14 -> only(() -> bench.forget());
            case 15 -> only(() -> bench.canMeasure(minute), ARGUMENT);
            case 16 -> only(() -> bench.fewestTurns(minute), ARGUMENT, ELEMENT);
            case 17 -> only(() -> bench.decisions(minute), ARGUMENT, ELEMENT);
            case 18 -> only(() -> bench.turnedAt(minute, number(5)), ARGUMENT, ELEMENT);
            case 19 -> only(() -> bench.minuteAt(minute, number(5)), ARGUMENT, ELEMENT);
            case 20 -> only(() -> bench.measurable(minute), ARGUMENT);
            case 21 -> only(() -> bench.canStretch(minute), ARGUMENT);
            case 22 -> only(() -> bench.divisor());
            case 23 -> only(() -> bench.boy(), UNSUPPORTED);
            case 24 -> only(() -> bench.noon());
            case 25 -> only(() -> bench.bells() + bench.watch());
            case 26 -> only(() -> bench.wrongBy());
            default -> only(() -> bench.aboveShare(), ELEMENT);
        }
    }

    private void only(java.util.function.Supplier<Object> call, String... allowed) {
        long before = bench.checksum();
        try {
            call.get();
        } catch (RuntimeException e) {
            String name = Check.nameOf(e);
            CHECK.due(name + " is not among the named ones", Set.of(allowed).contains(name), true);
            CHECK.due("checksum behind " + name, bench.checksum(), before);
        }
    }
}
