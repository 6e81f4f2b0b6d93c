import java.util.function.Supplier;

/** Tells all that a bench answers and what comes of it, in some 350 calls at most; the bench is used up by it. */
final class Probe {
    private final IsochroneBench bench;
    private final StringBuilder told = new StringBuilder();
    private int glasses;

    private Probe(IsochroneBench bench) {
        this.bench = bench;
    }

    static String tellAll(IsochroneBench bench) {
        Probe probe = new Probe(bench);
        probe.countGlasses();
        probe.look();
        probe.puzzle();
        probe.ship();
        probe.settle();
        probe.look();
        probe.runs();
        probe.touch();
        return probe.told.toString();
    }

    private void countGlasses() {
        while (glasses < 8 && isThere(glasses)) {
            glasses++;
        }
    }

    private boolean isThere(int glass) {
        try {
            bench.above(glass);
            return true;
        } catch (IndexOutOfBoundsException e) {
            return false;
        }
    }

    private void look() {
        note("sums", () -> bench.checksum() + " " + bench.grains() + " " + bench.time() + " " + bench.isSound());
        note("share", () -> bench.aboveShare());
        note("steadiest", () -> bench.steadiest());
        for (int i = 0; i < glasses; i++) {
            int glass = i;
            note("glass", () -> bench.above(glass) + " " + bench.below(glass) + " " + bench.state(glass) + " "
                    + bench.timesTurned(glass) + " " + bench.falls(glass) + " " + bench.runs(glass));
            note("mean", () -> bench.meanRun(glass));
        }
        for (int i = 0; i < 6; i++) {
            int gate = i;
            note("gate", () -> bench.tips(gate) + " " + bench.filled(gate));
        }
    }

    private void puzzle() {
        note("puzzle", () -> bench.divisor() + " " + bench.measurable(40) + " " + bench.canStretch(1));
        for (int i = 9; i <= 40; i += 9) {
            int minute = i;
            note("minute", () -> bench.fewestTurns(minute) + " " + bench.decisions(minute) + " "
                    + bench.turnedAt(minute, 0) + " " + bench.minuteAt(minute, 1));
        }
        note("forgotten", () -> bench.forget());
    }

    private void ship() {
        note("ship", () -> bench.bells() + " " + bench.watch() + " " + bench.wrongBy());
        note("count", () -> bench.noon());
    }

    /** Frees all and lets it run: the runs tell when a glass was turned, and the gates what fell in it. */
    private void settle() {
        for (int i = 0; i < glasses; i++) {
            int glass = i;
            note("stood", () -> bench.stand(glass, 'u'));
            note("tapped", () -> bench.tap(glass));
        }
        note("passed", () -> bench.pass(2));
        for (int i = 0; i < glasses; i++) {
            int glass = i;
            note("jam", () -> bench.setJam(glass, 0));
            note("runs out", () -> bench.runTime(glass));
        }
        note("passed on", () -> bench.pass(400));
    }

    private void runs() {
        for (int i = 0; i < glasses; i++) {
            int kept = bench.runs(i);
            for (int run = 0; run < kept; run++) {
                told.append(bench.runAt(i, run)).append(' ');
            }
        }
    }

    private void touch() {
        for (int i = 0; i < glasses; i++) {
            int glass = i;
            note("fed", () -> bench.feed(glass, -1));
            note("turned", () -> bench.turn(glass) + " " + bench.falls(glass));
            note("poured", () -> bench.pour(glass, 100));
        }
        note("boy", () -> bench.boy());
        note("before", () -> bench.setShip(0));
        note("z", () -> bench.seed(1));
        note("new glass", () -> bench.addGlass(1, 1, 1, 0));
        note("new gate", () -> bench.gateAt(0, 1));
        note("told", () -> bench.tell(1));
    }

    private void note(String what, Supplier<Object> call) {
        told.append(what).append(' ');
        try {
            told.append(call.get());
        } catch (RuntimeException e) {
            told.append(e.getClass().getSimpleName());
        }
        told.append('\n');
    }
}
