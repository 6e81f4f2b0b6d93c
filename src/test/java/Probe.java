import java.util.function.Supplier;

/** Tells all that a bench answers, in some 300 calls at most; the bench is used up by it. */
final class Probe {
    private final IsochroneBench bench;
    private final StringBuilder told = new StringBuilder();

    private Probe(IsochroneBench bench) {
        this.bench = bench;
    }

    static String tellAll(IsochroneBench bench) {
        Probe probe = new Probe(bench);
        probe.look();
        probe.puzzle();
        probe.touch();
        return probe.told.toString();
    }

    private void look() {
        note("sums", () -> bench.checksum() + " " + bench.grains() + " " + bench.time() + " " + bench.isSound());
        note("share", () -> bench.aboveShare());
        note("steadiest", () -> bench.steadiest());
        note("ship", () -> bench.bells() + " " + bench.watch() + " " + bench.wrongBy());
        for (int i = 0; i < 8 && isThere(i); i++) {
            int glass = i;
            note("glass", () -> bench.above(glass) + " " + bench.below(glass) + " " + bench.state(glass) + " "
                    + bench.timesTurned(glass) + " " + bench.falls(glass) + " " + bench.runs(glass));
            for (int run = 0; run < bench.runs(glass); run++) {
                told.append(bench.runAt(glass, run)).append(' ');
            }
        }
        for (int i = 0; i < 6; i++) {
            int gate = i;
            note("gate", () -> bench.tips(gate) + " " + bench.filled(gate));
        }
    }

    private void puzzle() {
        note("puzzle", () -> bench.divisor() + " " + bench.measurable(40));
        for (int i = 9; i <= 40; i += 9) {
            int minute = i;
            note("minute", () -> bench.fewestTurns(minute) + " " + bench.decisions(minute));
        }
        note("forgotten", () -> bench.forget());
    }

    private void touch() {
        note("count", () -> bench.noon());
        note("boy", () -> bench.boy());
        note("before", () -> bench.setShip(0));
        for (int i = 0; i < 8 && isThere(i); i++) {
            int glass = i;
            note("jam", () -> bench.setJam(glass, 500));
            note("stood", () -> bench.stand(glass, 't'));
            note("tapped", () -> bench.tap(glass));
        }
        note("passed", () -> bench.pass(2));
        look();
        for (int i = 0; i < 8 && isThere(i); i++) {
            int glass = i;
            note("turned", () -> bench.turn(glass));
            note("poured", () -> bench.pour(glass, 100));
            note("runs out", () -> bench.runTime(glass));
            note("fed", () -> bench.feed(glass, -1));
        }
        note("z", () -> bench.seed(1));
        note("new glass", () -> bench.addGlass(1, 1, 1, 0));
        note("new gate", () -> bench.gateAt(0, 1));
        note("told", () -> bench.tell(1));
    }

    private boolean isThere(int glass) {
        try {
            bench.above(glass);
            return true;
        } catch (IndexOutOfBoundsException e) {
            return false;
        }
    }

    private void note(String what, Supplier<Object> call) {
        told.append(what).append(' ');
        try {
            told.append(call.get());
        } catch (RuntimeException e) {
            told.append(e.getClass().getSimpleName());
        }
        told.append('\n');
    }
}
