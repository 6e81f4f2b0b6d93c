import java.util.function.Function;
import java.util.function.Supplier;

/** Each refused call of the face, on a bench with nothing, one with some and one that is full: nothing is changed. */
public final class RefusalsTest {
    private static final Class<IllegalArgumentException> ARGUMENT = IllegalArgumentException.class;
    private static final Class<IllegalStateException> STATE = IllegalStateException.class;
    private static final Class<IndexOutOfBoundsException> INDEX = IndexOutOfBoundsException.class;
    private static final Class<UnsupportedOperationException> UNSUPPORTED = UnsupportedOperationException.class;
    private static final Class<java.util.NoSuchElementException> ELEMENT = java.util.NoSuchElementException.class;
    private static final int LEAST = Integer.MIN_VALUE;
    private static final int MOST = Integer.MAX_VALUE;
    private static final Check CHECK = new Check("RefusalsTest");

    /** A glass's number, and what is called with it. */
    private interface OfNumber {
        Object call(IsochroneBench bench, int number);
    }

    public static void main(String[] args) {
        noSuchGlass();
        noSuchGate();
        newGlasses();
        numbersOfAGlass();
        feeding();
        secondsAndLots();
        gates();
        runs();
        puzzles();
        emptyBench();
        CHECK.end();
    }

    private static void refused(String what, Supplier<IsochroneBench> maker, Function<IsochroneBench, Object> call,
            Class<? extends RuntimeException> want) {
        CHECK.refused(what, maker, call, want);
    }

    private static void each(String what, Supplier<IsochroneBench> maker, OfNumber call,
            Class<? extends RuntimeException> want, int... numbers) {
        for (int number : numbers) {
            refused(what + " " + number, maker, b -> call.call(b, number), want);
        }
    }

    /** Three glasses: 0 jammed in mid run, feeding 1; 1 with two runs, tilted; 2 with one run, lying. */
    private static IsochroneBench some() {
        IsochroneBench bench = new IsochroneBench();
        bench.addGlass(500, 3, 5, 9);
        bench.addGlass(20, 2, 4, 3);
        bench.addGlass(30, 7, 7, 0);
        bench.gateAt(1, 3);
        bench.gateBehind(0, 2);
        bench.setShip(1);
        bench.boy();
        bench.turn(2);
        bench.pass(8);
        bench.boy();
        bench.pass(13);
        bench.noon();
        bench.boy();
        bench.feed(0, 1);
        bench.turn(0);
        bench.pass(3);
        bench.setJam(0, 999);
        bench.pass(1);
        bench.stand(1, 't');
        bench.stand(2, 'l');
        bench.setJam(1, 40);
        bench.seed(77);
        bench.tell(4);
        bench.tell(7);
        return bench;
    }

    /** Eight glasses, six gates, three told; 0 with ten runs, 1 with 19999 grains and running; others on their way. */
    private static IsochroneBench full() {
        IsochroneBench bench = new IsochroneBench();
        bench.addGlass(1, 1, 2, 0);
        bench.addGlass(9999, 50, 50, 99);
        for (int i = 2; i < 8; i++) {
            bench.addGlass(10 * i, i, 9 - i, 3 * i);
            bench.turn(i);
            bench.feed(i - 1, i);
        }
        bench.feed(1, -1);
        bench.turn(0);
        for (int i = 0; i < 10; i++) {
            bench.pass(1);
            bench.pour(0, 1);
            bench.pour(1, 999);
        }
        bench.pour(1, 10);
        for (int i = 0; i < 3; i++) {
            bench.gateAt(i, 100 - i);
            bench.gateBehind(i, 1 + i);
        }
        bench.setShip(7);
        bench.boy();
        bench.setJam(2, 1);
        bench.stand(3, 'l');
        bench.tell(3);
        bench.tell(5);
        bench.tell(9);
        return bench;
    }

    /** As some(), but at the second 19990. */
    private static IsochroneBench late() {
        IsochroneBench bench = some();
        for (int i = 0; i < 33; i++) {
            bench.pass(600);
        }
        bench.pass(19990 - bench.time());
        return bench;
    }

    private static void noSuchGlass() {
        String[] names = {"above", "below", "state", "turn", "timesTurned", "stand", "stand x", "setJam", "setJam 1000",
            "tap", "pour", "pour 0", "pour 999", "falls", "runTime", "feed none", "feed 1", "feed itself", "feed 9",
            "gateAt", "gateAt 0", "gateAt 101", "runs", "runAt", "runAt -1", "meanRun", "spread", "knots", "knots -1",
            "knots 100", "setShip"};
        OfNumber[] calls = {(b, g) -> b.above(g), (b, g) -> b.below(g), (b, g) -> b.state(g), (b, g) -> b.turn(g),
            (b, g) -> b.timesTurned(g), (b, g) -> b.stand(g, 'l'), (b, g) -> b.stand(g, 'x'), (b, g) -> b.setJam(g, 7),
            (b, g) -> b.setJam(g, 1000), (b, g) -> b.tap(g), (b, g) -> b.pour(g, 1), (b, g) -> b.pour(g, 0),
            (b, g) -> b.pour(g, 999), (b, g) -> b.falls(g), (b, g) -> b.runTime(g), (b, g) -> b.feed(g, -1),
            (b, g) -> b.feed(g, 1), (b, g) -> b.feed(g, g), (b, g) -> b.feed(g, 9), (b, g) -> b.gateAt(g, 5),
            (b, g) -> b.gateAt(g, 0), (b, g) -> b.gateAt(g, 101), (b, g) -> b.runs(g), (b, g) -> b.runAt(g, 0),
            (b, g) -> b.runAt(g, -1), (b, g) -> b.meanRun(g), (b, g) -> b.spread(g), (b, g) -> b.knots(g, 1),
            (b, g) -> b.knots(g, -1), (b, g) -> b.knots(g, 100), (b, g) -> b.setShip(g)};
        CHECK.due("a name for each call of a glass", names.length, calls.length);
        for (int i = 0; i < calls.length; i++) {
            each("no glass: " + names[i], IsochroneBench::new, calls[i], INDEX, 0, -1, 1);
            each("3 glasses: " + names[i], RefusalsTest::some, calls[i], INDEX, -1, 3, 7, 8, LEAST, MOST);
            each("8 glasses: " + names[i], RefusalsTest::full, calls[i], INDEX, -1, 8, LEAST, MOST);
            boolean otherIsNone = names[i].equals("feed 9");
            lastIsThere("the last of 3 glasses: " + names[i], some(), of(calls[i], 2), !otherIsNone);
            lastIsThere("the last of 8 glasses: " + names[i], full(), of(calls[i], 7), !otherIsNone);
        }
    }

    private static void lastIsThere(String what, IsochroneBench bench, Function<IsochroneBench, Object> call,
            boolean want) {
        CHECK.due(what, !Check.thrownBy(bench, call).equals("IndexOutOfBoundsException"), want);
    }

    private static Function<IsochroneBench, Object> of(OfNumber call, int number) {
        return b -> call.call(b, number);
    }

    private static void noSuchGate() {
        String[] names = {"tips", "filled", "gateBehind", "gateBehind 0", "gateBehind 101"};
        OfNumber[] calls = {(b, g) -> b.tips(g), (b, g) -> b.filled(g), (b, g) -> b.gateBehind(g, 5),
            (b, g) -> b.gateBehind(g, 0), (b, g) -> b.gateBehind(g, 101)};
        for (int i = 0; i < calls.length; i++) {
            each("no gate: " + names[i], IsochroneBench::new, calls[i], INDEX, 0, -1);
            each("2 gates: " + names[i], RefusalsTest::some, calls[i], INDEX, -1, 2, 5, 6, LEAST, MOST);
            each("6 gates: " + names[i], RefusalsTest::full, calls[i], INDEX, -1, 6, LEAST, MOST);
            lastIsThere("the last of 2 gates: " + names[i], some(), of(calls[i], 1), true);
            lastIsThere("the last of 6 gates: " + names[i], full(), of(calls[i], 5), true);
        }
    }

    private static void newGlasses() {
        int[] grains = {LEAST, -1, 0, 10000, MOST};
        int[] rates = {LEAST, -1, 0, 51, MOST};
        int[] funnels = {LEAST, -1, 100, MOST};
        each("addGlass, grains", RefusalsTest::some, (b, n) -> b.addGlass(n, 5, 5, 5), ARGUMENT, grains);
        each("addGlass, forth", RefusalsTest::some, (b, n) -> b.addGlass(5, n, 5, 5), ARGUMENT, rates);
        each("addGlass, back", RefusalsTest::some, (b, n) -> b.addGlass(5, 5, n, 5), ARGUMENT, rates);
        each("addGlass, funnel", RefusalsTest::some, (b, n) -> b.addGlass(5, 5, 5, n), ARGUMENT, funnels);
        each("a ninth, grains", RefusalsTest::full, (b, n) -> b.addGlass(n, 5, 5, 5), ARGUMENT, grains);
        each("a ninth, forth", RefusalsTest::full, (b, n) -> b.addGlass(5, n, 5, 5), ARGUMENT, rates);
        each("a ninth, back", RefusalsTest::full, (b, n) -> b.addGlass(5, 5, n, 5), ARGUMENT, rates);
        each("a ninth, funnel", RefusalsTest::full, (b, n) -> b.addGlass(5, 5, 5, n), ARGUMENT, funnels);
        each("a ninth", RefusalsTest::full, (b, n) -> b.addGlass(n, 5, 5, 5), STATE, 1, 9999);
    }

    private static void numbersOfAGlass() {
        for (char how : new char[] {0, 'U', 'T', 'L', 'k', 'm', 's', 'v', 'j', 'r', 'e', ' ', 255, (char) 65535}) {
            refused("stand " + (int) how, RefusalsTest::some, b -> b.stand(2, how), ARGUMENT);
        }
        each("setJam", RefusalsTest::some, (b, n) -> b.setJam(1, n), ARGUMENT, LEAST, -1, 1000, MOST);
        each("pour", RefusalsTest::some, (b, n) -> b.pour(2, n), ARGUMENT, LEAST, -1, 0, 1000, MOST);
        each("pour out of range into a full one", RefusalsTest::full, (b, n) -> b.pour(1, n), ARGUMENT,
                LEAST, -1, 0, 1000, MOST);
        each("pour into a full one", RefusalsTest::full, (b, n) -> b.pour(1, n), STATE, 1, 2, 999);
        refused("runTime of a lying one with nothing above", RefusalsTest::some, b -> b.runTime(2), UNSUPPORTED);
        refused("runTime of a lying one with grains above", RefusalsTest::full, b -> b.runTime(3), UNSUPPORTED);
    }

    private static void feeding() {
        each("feed 0, and no such other", RefusalsTest::some, (b, n) -> b.feed(0, n), INDEX, LEAST, -2, 3, 8, MOST);
        each("feed 2, and no such other", RefusalsTest::some, (b, n) -> b.feed(2, n), INDEX, LEAST, -2, 3, 8, MOST);
        each("feed 7, and no such other", RefusalsTest::full, (b, n) -> b.feed(7, n), INDEX, LEAST, -2, 8, 9, MOST);
        each("feed 2, not higher", RefusalsTest::some, (b, n) -> b.feed(2, n), UNSUPPORTED, 0, 1, 2);
        each("feed 7, not higher", RefusalsTest::full, (b, n) -> b.feed(7, n), UNSUPPORTED, 0, 6, 7);
        each("feed 0, not higher", RefusalsTest::full, (b, n) -> b.feed(0, n), UNSUPPORTED, 0);
    }

    private static void secondsAndLots() {
        each("pass", RefusalsTest::some, (b, n) -> b.pass(n), ARGUMENT, LEAST, -1, 0, 601, MOST);
        each("pass late, and out of range", RefusalsTest::late, (b, n) -> b.pass(n), ARGUMENT, LEAST, -1, 0, 601, MOST);
        each("pass late", RefusalsTest::late, (b, n) -> b.pass(n), STATE, 10, 11, 600);
        each("seed", RefusalsTest::some, (b, n) -> b.seed(n), ARGUMENT, LEAST, -1, 0, MOST);
    }

    private static void gates() {
        int[] wrong = {LEAST, -1, 0, 101, MOST};
        each("gateAt, for", RefusalsTest::some, (b, n) -> b.gateAt(0, n), ARGUMENT, wrong);
        each("gateBehind, for", RefusalsTest::some, (b, n) -> b.gateBehind(1, n), ARGUMENT, wrong);
        each("a seventh gateAt, for", RefusalsTest::full, (b, n) -> b.gateAt(7, n), ARGUMENT, wrong);
        each("a seventh gateBehind, for", RefusalsTest::full, (b, n) -> b.gateBehind(5, n), ARGUMENT, wrong);
        each("a seventh gateAt", RefusalsTest::full, (b, n) -> b.gateAt(7, n), STATE, 1, 100);
        each("a seventh gateBehind", RefusalsTest::full, (b, n) -> b.gateBehind(5, n), STATE, 1, 100);
    }

    private static void runs() {
        each("runAt of none", RefusalsTest::some, (b, n) -> b.runAt(0, n), ELEMENT, LEAST, -1, 0, 1, MOST);
        each("runAt of one", RefusalsTest::some, (b, n) -> b.runAt(2, n), ELEMENT, LEAST, -1, 1, 2, MOST);
        each("runAt of two", RefusalsTest::some, (b, n) -> b.runAt(1, n), ELEMENT, LEAST, -1, 2, 3, MOST);
        each("runAt of ten", RefusalsTest::full, (b, n) -> b.runAt(0, n), ELEMENT, LEAST, -1, 10, 11, MOST);
        refused("meanRun of none", RefusalsTest::some, b -> b.meanRun(0), ELEMENT);
        each("spread of none and of one", RefusalsTest::some, (b, n) -> b.spread(n), ELEMENT, 0, 2);
        each("knots, out of range", RefusalsTest::some, (b, n) -> b.knots(1, n), ARGUMENT, LEAST, -1, 100, MOST);
        each("knots of no run, out of range", RefusalsTest::some, (b, n) -> b.knots(0, n), ARGUMENT,
                LEAST, -1, 100, MOST);
        each("knots of no run", RefusalsTest::some, (b, n) -> b.knots(0, n), ELEMENT, 0, 1, 99);
        refused("steadiest with one run", RefusalsTest::oneRun, b -> b.steadiest(), ELEMENT);
        CHECK.due("the runs that some() has", some().runs(0) + " " + some().runs(1) + " " + some().runs(2), "0 2 1");
        CHECK.due("the runs that full() has", full().runs(0), 10);
    }

    private static IsochroneBench oneRun() {
        IsochroneBench bench = new IsochroneBench();
        bench.addGlass(5, 1, 1, 0);
        bench.turn(0);
        bench.pass(5);
        return bench;
    }

    private static void puzzles() {
        String[] names = {"canMeasure", "fewestTurns", "decisions", "turnedAt", "turnedAt, no decision", "minuteAt",
            "minuteAt, no decision", "measurable", "canStretch"};
        OfNumber[] calls = {(b, m) -> b.canMeasure(m), (b, m) -> b.fewestTurns(m), (b, m) -> b.decisions(m),
            (b, m) -> b.turnedAt(m, 0), (b, m) -> b.turnedAt(m, -1), (b, m) -> b.minuteAt(m, 0),
            (b, m) -> b.minuteAt(m, 99), (b, m) -> b.measurable(m), (b, m) -> b.canStretch(m)};
        for (int i = 0; i < calls.length; i++) {
            each("no glass told: " + names[i], IsochroneBench::new, calls[i], ARGUMENT, LEAST, -1, 0, 41, MOST);
            each("4 and 7 told: " + names[i], RefusalsTest::some, calls[i], ARGUMENT, LEAST, -1, 0, 41, MOST);
            each("three told: " + names[i], RefusalsTest::full, calls[i], ARGUMENT, LEAST, -1, 0, 41, MOST);
            boolean needsAPlan = i > 0 && i < 7;
            if (needsAPlan) {
                each("no glass told: " + names[i], IsochroneBench::new, calls[i], ELEMENT, 1, 40);
                each("4 and 7 told: " + names[i], RefusalsTest::some, calls[i], ELEMENT, 1, 2, 3, 5, 6);
            }
        }
        each("turnedAt 9 of four decisions", RefusalsTest::some, (b, d) -> b.turnedAt(9, d), ELEMENT,
                LEAST, -1, 4, 5, MOST);
        each("minuteAt 9 of four decisions", RefusalsTest::some, (b, d) -> b.minuteAt(9, d), ELEMENT,
                LEAST, -1, 4, 5, MOST);
        each("tell", RefusalsTest::some, (b, m) -> b.tell(m), ARGUMENT, LEAST, -1, 0, 13, MOST);
        each("a fourth, out of range", RefusalsTest::full, (b, m) -> b.tell(m), ARGUMENT, LEAST, -1, 0, 13, MOST);
        each("a fourth", RefusalsTest::full, (b, m) -> b.tell(m), STATE, 1, 12);
    }

    private static void emptyBench() {
        refused("steadiest of none", IsochroneBench::new, b -> b.steadiest(), ELEMENT);
        refused("aboveShare of none", IsochroneBench::new, b -> b.aboveShare(), ELEMENT);
        refused("boy without a ship", IsochroneBench::new, b -> b.boy(), UNSUPPORTED);
        refused("boy without a ship, but with glasses", RefusalsTest::oneRun, b -> b.boy(), UNSUPPORTED);
        IsochroneBench manned = oneRun();
        manned.setShip(0);
        CHECK.due("boy with a ship", manned.boy(), 1);
    }
}
