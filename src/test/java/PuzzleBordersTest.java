import java.util.function.Function;

/** The borders that "Terms" names for puzzles, the ship and an object's 512 calls, from both sides. */
public final class PuzzleBordersTest {
    private static final Check CHECK = new Check("PuzzleBordersTest");

    public static void main(String[] args) {
        threeGlasses();
        minutesOfAGlass();
        runDownAtFirst();
        minutes();
        decisions();
        fewestTurns();
        likePlans();
        limits();
        stretches();
        divisors();
        noShip();
        bellsAndWatches();
        wrongBy();
        shipsGlass();
        shares();
        manyCalls();
        manyPuzzles();
        manyRuns();
        CHECK.end();
    }

    private static IsochroneBench told(int... minutes) {
        IsochroneBench bench = new IsochroneBench();
        for (int m : minutes) {
            bench.tell(m);
        }
        return bench;
    }

    private static String planOf(IsochroneBench bench, int minute) {
        StringBuilder plan = new StringBuilder();
        int decisions = bench.decisions(minute);
        for (int i = 0; i < decisions; i++) {
            plan.append(i == 0 ? "" : " ").append(bench.minuteAt(minute, i)).append('/');
            plan.append(bench.turnedAt(minute, i));
        }
        return plan.toString();
    }

    private static void thrown(String what, IsochroneBench bench, Function<IsochroneBench, Object> call, String want) {
        CHECK.due(what, Check.thrownBy(bench, call), want);
    }

    /** "At most 3 glasses of a puzzle are told." */
    private static void threeGlasses() {
        IsochroneBench bench = new IsochroneBench();
        CHECK.due("none to forget", bench.forget(), 0);
        for (int round = 0; round < 3; round++) {
            for (int i = 1; i <= 3; i++) {
                CHECK.due("told", bench.tell(i + 3), i);
            }
            thrown("a fourth", bench, b -> b.tell(1), "IllegalStateException");
            CHECK.due("a refused one measures nothing", bench.canMeasure(1) + " " + bench.canMeasure(3), "false false");
            CHECK.due("forgotten", bench.forget(), 3);
            CHECK.due("none are left", bench.forget(), 0);
        }
        bench.tell(2);
        bench.tell(2);
        CHECK.due("two to forget", bench.forget(), 2);
    }

    /** "Each of 1 to 12 minutes." */
    private static void minutesOfAGlass() {
        for (int minutes = 1; minutes <= 12; minutes++) {
            IsochroneBench bench = told(minutes);
            for (int minute = 1; minute <= 40; minute++) {
                CHECK.due(minute + " of " + minutes, bench.canMeasure(minute), minute % minutes == 0);
                CHECK.due("stretch " + minute + " of " + minutes, bench.canStretch(minute), minute % minutes == 0);
            }
            CHECK.due("how many of " + minutes, bench.measurable(40), 40 / minutes);
            CHECK.due("divisor of " + minutes, bench.divisor(), minutes);
        }
        thrown("tell 0", told(), b -> b.tell(0), "IllegalArgumentException");
        thrown("tell 13", told(), b -> b.tell(13), "IllegalArgumentException");
    }

    /** "With all above run down at the minute 0." */
    private static void runDownAtFirst() {
        CHECK.due("one turn at the minute 0", planOf(told(12), 12), "0/1");
        CHECK.due("all of it is below", planOf(told(12, 5), 12) + ", " + planOf(told(12, 5), 5), "0/1, 0/2");
        CHECK.due("nothing told, nothing measured", told().canMeasure(1) + " " + told().canMeasure(40), "false false");
        thrown("no turns of none", told(), b -> b.fewestTurns(40), "NoSuchElementException");
        thrown("no decisions of none", told(), b -> b.decisions(40), "NoSuchElementException");
    }

    /** "A minute, 1 to 40, can be measured if one runs out at it." */
    private static void minutes() {
        IsochroneBench bench = told(1);
        CHECK.due("the first and the last minute", planOf(bench, 1) + " " + bench.fewestTurns(40), "0/1 40");
        thrown("the minute 0", bench, b -> b.canMeasure(0), "IllegalArgumentException");
        thrown("the minute 41", bench, b -> b.canMeasure(41), "IllegalArgumentException");
        CHECK.due("40 of 8", planOf(told(8), 40), "0/1 8/1 16/1 24/1 32/1");
        CHECK.due("39 of 8", told(8).canMeasure(39), false);
        CHECK.due("39 of 3", told(3).fewestTurns(39) + " " + told(3).canMeasure(40), "13 false");
        CHECK.due("1 of 2", told(2).canMeasure(1), false);
        CHECK.due("40 of 12 and 8", planOf(told(12, 8), 40), "0/1 12/1 24/2 32/2");
        CHECK.due("40 of 11 and 12", told(11, 12).canMeasure(40), byHand(40, 11, 12));
    }

    private static boolean byHand(int minute, int... sizes) {
        return new PlanSearch(sizes).planFor(minute) != null;
    }

    /** turnedAt and minuteAt: "the decision, from 0". */
    private static void decisions() {
        IsochroneBench bench = told(4, 7);
        CHECK.due("9 of 4 and 7", bench.decisions(9) + ": " + planOf(bench, 9), "4: 0/3 4/1 7/2 8/2");
        for (int decision : new int[] {-1, 4}) {
            thrown("turnedAt " + decision, bench, b -> b.turnedAt(9, decision), "NoSuchElementException");
            thrown("minuteAt " + decision, bench, b -> b.minuteAt(9, decision), "NoSuchElementException");
        }
        CHECK.due("a single decision", bench.decisions(4) + " " + planOf(bench, 4), "1 0/1");
        thrown("no second one", bench, b -> b.turnedAt(4, 1), "NoSuchElementException");
        thrown("nor its minute", bench, b -> b.minuteAt(4, 1), "NoSuchElementException");
        IsochroneBench most = told(1);
        CHECK.due("the most decisions", most.decisions(40) + " " + most.minuteAt(40, 39) + " " + most.turnedAt(40, 39),
                "40 39 1");
        thrown("a decision at the minute itself", most, b -> b.minuteAt(40, 40), "NoSuchElementException");
        CHECK.due("of another minute meanwhile", bench.minuteAt(9, 3) + " " + bench.minuteAt(4, 0) + " "
                + bench.turnedAt(9, 3), "8 0 2");
    }

    /** "Of plans that with the fewest turns, each glass counted at each decision." */
    private static void fewestTurns() {
        CHECK.due("one large for two small ones", told(6, 12).fewestTurns(12), 1);
        CHECK.due("two of three", planOf(told(12, 6, 4), 10), "0/2 6/4");
        CHECK.due("each counted", told(4, 7).fewestTurns(9), 5);
        CHECK.due("bits of three", planOf(told(3, 5, 12), 12) + ", " + planOf(told(12, 12, 1), 1), "0/4, 0/4");
    }

    /** "Of like ones that whose first decision is the lowest number, then the second one, and so on." */
    private static void likePlans() {
        CHECK.due("the first of three like ones", planOf(told(9, 9, 9), 27), "0/1 9/1 18/1");
        CHECK.due("the lowest first decision", planOf(told(5, 3), 8) + ", " + planOf(told(3, 5), 8),
                "0/1 5/2, 0/1 3/2");
        CHECK.due("then the second one", planOf(told(4, 5, 3), 12), "0/1 4/1 8/1");
        CHECK.due("though the last is higher", planOf(told(3, 3, 5), 11), "0/1 3/1 6/4");
    }

    /** measurable: "how many minutes up to a limit". */
    private static void limits() {
        IsochroneBench bench = told(4, 7);
        int[][] due = {{1, 0}, {3, 0}, {4, 1}, {5, 1}, {6, 1}, {7, 2}, {8, 3}, {9, 4}, {20, 15}, {39, 34}, {40, 35}};
        for (int[] d : due) {
            CHECK.due("up to " + d[0], bench.measurable(d[0]), d[1]);
        }
        thrown("up to 0", bench, b -> b.measurable(0), "IllegalArgumentException");
        thrown("up to 41", bench, b -> b.measurable(41), "IllegalArgumentException");
        CHECK.due("none told", told().measurable(40), 0);
    }

    /** "It lies between two minutes, the later one being 40 at most." */
    private static void stretches() {
        CHECK.due("from 0 to 40", told(8).canStretch(40) + " " + told(10).canStretch(40), "true true");
        CHECK.due("from 0 to 36, not to 48", told(12).canStretch(36) + " " + told(12).canStretch(40), "true false");
        CHECK.due("1 first lies between 44 and 45", told(9, 11).canStretch(1), false);
        CHECK.due("2 lies between 9 and 11", told(9, 11).canStretch(2), true);
        CHECK.due("1 lies between 7 and 8, though no minute 1", told(4, 7).canStretch(1) + " "
                + told(4, 7).canMeasure(1), "true false");
        CHECK.due("between multiples alone", told(12, 8).canStretch(4) + " " + told(12, 8).canStretch(6), "true false");
        CHECK.due("none told", told().canStretch(1) + " " + told().canStretch(40), "false false");
        thrown("a stretch of 0", told(4), b -> b.canStretch(0), "IllegalArgumentException");
        thrown("a stretch of 41", told(4), b -> b.canStretch(41), "IllegalArgumentException");
        CHECK.due("all stretches of 1", told(1).canStretch(1) + " " + told(1).canStretch(40), "true true");
    }

    /** divisor: "0 without any". */
    private static void divisors() {
        IsochroneBench bench = new IsochroneBench();
        CHECK.due("without any", bench.divisor(), 0);
        bench.tell(12);
        CHECK.due("of 12", bench.divisor(), 12);
        bench.tell(12);
        CHECK.due("of 12 and 12", bench.divisor(), 12);
        bench.tell(1);
        CHECK.due("of 12, 12 and 1", bench.divisor(), 1);
        bench.forget();
        CHECK.due("forgotten", bench.divisor() + " " + bench.isSound(), "0 true");
        for (int first = 1; first <= 12; first++) {
            for (int second = 1; second <= 12; second++) {
                IsochroneBench two = told(first, second);
                CHECK.due("of " + first + " and " + second, two.divisor(), greatest(first, second));
                CHECK.due("isSound with them", two.isSound(), true);
            }
        }
    }

    private static int greatest(int one, int other) {
        return other == 0 ? one : greatest(other, one % other);
    }

    /** What is told without a ship's glass. */
    private static void noShip() {
        IsochroneBench bench = new IsochroneBench();
        thrown("no glass", bench, b -> b.boy(), "UnsupportedOperationException");
        thrown("no glass for a ship", bench, b -> b.setShip(0), "IndexOutOfBoundsException");
        bench.addGlass(5, 1, 1, 0);
        thrown("a glass, but no ship's", bench, b -> b.boy(), "UnsupportedOperationException");
        thrown("none is no glass", bench, b -> b.setShip(-1), "IndexOutOfBoundsException");
        CHECK.due("nothing counted", bench.bells() + " " + bench.watch() + " " + bench.wrongBy() + " " + bench.noon(),
                "0 0 0 0");
        bench.pass(5);
        CHECK.due("wrong by what went by", bench.wrongBy(), -5);
        bench.noon();
        CHECK.due("at noon", bench.wrongBy(), 0);
    }

    /** "From 1 to 8, and again; 0 at a count of 0"; "there are 6, from 0, and again". */
    private static void bellsAndWatches() {
        IsochroneBench bench = new IsochroneBench();
        bench.addGlass(5, 1, 1, 0);
        bench.setShip(0);
        int[][] due = {{0, 0, 0}, {1, 1, 0}, {2, 2, 0}, {7, 7, 0}, {8, 8, 1}, {9, 1, 1}, {15, 7, 1}, {16, 8, 2},
            {17, 1, 2}, {39, 7, 4}, {40, 8, 5}, {41, 1, 5}, {47, 7, 5}, {48, 8, 0}, {49, 1, 0}, {55, 7, 0}, {56, 8, 1},
            {95, 7, 5}, {96, 8, 0}, {97, 1, 0}, {143, 7, 5}, {144, 8, 0}};
        int count = 0;
        for (int[] d : due) {
            for (; count < d[0]; count++) {
                CHECK.due("the count", bench.boy(), count + 1);
            }
            CHECK.due("bells and watch at " + count, bench.bells() + " " + bench.watch(), d[1] + " " + d[2]);
        }
        CHECK.due("the count at noon", bench.noon(), 144);
        CHECK.due("behind noon", bench.bells() + " " + bench.watch() + " " + bench.noon(), "0 0 0");
        CHECK.due("and again from 1", bench.boy() + " " + bench.bells() + " " + bench.watch(), "1 1 0");
    }

    /** "1800 seconds for each half hour, less the seconds since noon", perhaps below 0. */
    private static void wrongBy() {
        IsochroneBench bench = new IsochroneBench();
        bench.addGlass(5, 1, 1, 0);
        bench.setShip(0);
        CHECK.due("at the second 0", bench.wrongBy(), 0);
        bench.boy();
        bench.pass(600);
        bench.pass(600);
        bench.pass(599);
        CHECK.due("a second too early", bench.wrongBy(), 1);
        bench.pass(1);
        CHECK.due("right", bench.wrongBy(), 0);
        bench.pass(1);
        CHECK.due("a second too late", bench.wrongBy(), -1);
        bench.noon();
        CHECK.due("noon", bench.wrongBy(), 0);
        bench.pass(1);
        bench.boy();
        CHECK.due("a half hour since noon", bench.wrongBy(), 1799);
        bench.noon();
        bench.noon();
        CHECK.due("noon twice", bench.wrongBy(), 0);
    }

    /** setShip: from the first glass to the last; "-1 for none". */
    private static void shipsGlass() {
        IsochroneBench bench = new IsochroneBench();
        for (int i = 1; i <= 8; i++) {
            bench.addGlass(i, 1, 1, 0);
        }
        CHECK.due("none before", bench.setShip(7), -1);
        thrown("no ninth glass", bench, b -> b.setShip(8), "IndexOutOfBoundsException");
        CHECK.due("the boy turns the last one", bench.boy() + " " + bench.above(7) + " " + bench.above(0), "1 8 0");
        CHECK.due("the last one before", bench.setShip(0), 7);
        CHECK.due("the boy turns the first one", bench.boy() + " " + bench.above(7) + " " + bench.above(0), "2 8 1");
        bench.noon();
        CHECK.due("noon takes no glass", bench.setShip(0) + " " + bench.timesTurned(0), "0 1");
    }

    /** aboveShare: none and all above. */
    private static void shares() {
        IsochroneBench bench = new IsochroneBench();
        thrown("no glasses", bench, b -> b.aboveShare(), "NoSuchElementException");
        bench.addGlass(9999, 50, 50, 0);
        CHECK.due("none above", bench.aboveShare(), 0f);
        bench.pour(0, 1);
        CHECK.due("one above", bench.aboveShare(), 1f / 10000f);
        bench.turn(0);
        CHECK.due("all but one above", bench.aboveShare(), 9999f / 10000f);
        bench.pass(1);
        CHECK.due("a third digit", bench.aboveShare(), 9949f / 10000f);
    }

    /** "An object is used for at most 512 calls after it has been made." */
    private static void manyCalls() {
        IsochroneBench turned = new IsochroneBench();
        turned.addGlass(9999, 7, 3, 0);
        for (int i = 1; i <= 509; i++) {
            CHECK.due("turn " + i, turned.turn(0), i % 2 == 1 ? 9999 : 0);
        }
        CHECK.due("509 turns", turned.timesTurned(0), 509);
        CHECK.due("the 512th call", turned.falls(0), 15);
        IsochroneBench manned = new IsochroneBench();
        manned.addGlass(1, 1, 1, 0);
        manned.setShip(0);
        for (int i = 1; i <= 508; i++) {
            CHECK.due("boy " + i, manned.boy(), i);
        }
        CHECK.due("508 half hours", manned.bells() + " " + manned.watch(), "4 3");
        IsochroneBench passed = new IsochroneBench();
        for (int i = 1; i <= 512; i++) {
            CHECK.due("pass " + i, passed.pass(39), 39 * i);
        }
        IsochroneBench asked = new IsochroneBench();
        for (int i = 1; i < 512; i++) {
            thrown("refused " + i, asked, b -> b.pass(0), "IllegalArgumentException");
        }
        CHECK.due("nothing came of 511 refused ones", asked.checksum(), 6728L);
    }

    private static void manyPuzzles() {
        IsochroneBench bench = new IsochroneBench();
        for (int round = 0; round < 102; round++) {
            bench.tell(10 + round % 3);
            bench.tell(11);
            bench.tell(12 - round % 5);
            CHECK.due("the last decision", bench.turnedAt(11, 0), round % 3 == 1 ? 1 : 2);
            CHECK.due("forgotten", bench.forget(), 3);
        }
        CHECK.due("the 511th call", bench.divisor(), 0);
    }

    private static void manyRuns() {
        IsochroneBench bench = new IsochroneBench();
        bench.addGlass(1, 1, 1, 0);
        bench.turn(0);
        for (int i = 1; i <= 253; i++) {
            bench.pass(1);
            bench.pour(0, 1);
        }
        CHECK.due("the last ten of 253", bench.runs(0) + " " + bench.runAt(0, 0) + " " + bench.runAt(0, 9),
                "10 244 253");
        CHECK.due("the 512th call", bench.meanRun(0), 248.5);
    }
}
