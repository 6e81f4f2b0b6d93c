/** Promises 29 to 38. */
public final class PuzzlesTest {
    private static final Class<IllegalArgumentException> ARGUMENT = IllegalArgumentException.class;
    private static final Class<IllegalStateException> STATE = IllegalStateException.class;
    private static final Class<java.util.NoSuchElementException> ELEMENT = java.util.NoSuchElementException.class;
    private static final Check CHECK = new Check("PuzzlesTest");

    public static void main(String[] args) {
        tell();
        forget();
        leavesNothing();
        byHand();
        oneGlass();
        theOrderTold();
        stretches();
        divisor();
        measurable();
        wrongMinutes();
        wrongDecisions();
        againstSearch();
        CHECK.end();
    }

    private static IsochroneBench told(int... minutes) {
        IsochroneBench bench = new IsochroneBench();
        for (int m : minutes) {
            bench.tell(m);
        }
        return bench;
    }

    private static String planOf(IsochroneBench bench, int minute) {
        StringBuilder plan = new StringBuilder();
        plan.append(bench.fewestTurns(minute)).append(':');
        for (int i = 0; i < bench.decisions(minute); i++) {
            plan.append(' ').append(bench.minuteAt(minute, i)).append('/').append(bench.turnedAt(minute, i));
        }
        return plan.toString();
    }

    private static void tell() {
        IsochroneBench bench = new IsochroneBench();
        CHECK.due("29: the first", bench.tell(1), 1);
        CHECK.due("29: the second", bench.tell(12), 2);
        CHECK.due("29: the third", bench.tell(12), 3);
        for (int minutes : new int[] {0, 13, -1, Integer.MIN_VALUE, Integer.MAX_VALUE}) {
            CHECK.refused("29: tell " + minutes, () -> told(4, 7), b -> b.tell(minutes), ARGUMENT);
            CHECK.refused("29: a fourth of " + minutes, () -> told(4, 7, 4), b -> b.tell(minutes), ARGUMENT);
        }
        CHECK.refused("29: a fourth", () -> told(4, 7, 4), b -> b.tell(5), STATE);
    }

    private static void forget() {
        IsochroneBench bench = told(4, 7, 9);
        CHECK.due("30: three", bench.forget(), 3);
        CHECK.due("30: none are left", bench.forget(), 0);
        CHECK.due("31: nothing can be measured then", bench.measurable(40), 0);
        CHECK.due("30: told anew", bench.tell(7), 1);
        CHECK.due("31: measured anew", bench.canMeasure(4) + " " + bench.canMeasure(7), "false true");
        CHECK.due("33: the plan is new too", planOf(bench, 14), "2: 0/1 7/1");
    }

    /** Pairs in which the later puzzle would answer otherwise if the forgotten one left a next decision behind. */
    private static void leavesNothing() {
        int[][] before = {{1, 10, 1}, {9, 5, 9}, {8, 3, 8}, {4, 5, 6}, {6, 11, 3}, {11, 12, 7}};
        int[][] then = {{11, 12}, {12, 11}, {10, 12}, {12, 10}, {9, 11}, {11, 9}};
        for (int[] first : before) {
            for (int[] second : then) {
                PlanSearch search = new PlanSearch(second);
                boolean[] stretches = search.stretches();
                for (int minute = 1; minute <= 40; minute++) {
                    IsochroneBench bench = told(first);
                    bench.forget();
                    bench.tell(second[0]);
                    bench.tell(second[1]);
                    String what = minute + " of " + search + ", another one forgotten";
                    boolean fine = search.planFor(minute) != null;
                    CHECK.due("31: canMeasure " + what, bench.canMeasure(minute), fine);
                    CHECK.due("32 to 35: " + what, fine ? planOf(bench, minute) : "none", planBySearch(minute, second));
                    CHECK.due("37: canStretch " + what, bench.canStretch(minute), stretches[minute]);
                }
            }
        }
    }

    private static void byHand() {
        IsochroneBench bench = told(4, 7);
        CHECK.due("31: 9 of 4 and 7", bench.canMeasure(9), true);
        CHECK.due("32 to 35: 9 of 4 and 7", planOf(bench, 9), "5: 0/3 4/1 7/2 8/2");
        CHECK.due("31: 1 of 4 and 7", bench.canMeasure(1), false);
        CHECK.due("32 to 35: the 4 is not turned", planOf(bench, 7), "1: 0/2");
        CHECK.due("32 to 35: 11 of 4 and 7", planOf(bench, 11), "2: 0/1 4/2");
        CHECK.due("32 to 35: 10 of 4 and 7", planOf(bench, 10), "4: 0/3 4/1 7/1");
        CHECK.due("32 to 35: the last minute", planOf(bench, 40), planBySearch(40, 4, 7));
    }

    private static String planBySearch(int minute, int... sizes) {
        PlanSearch.Plan plan = new PlanSearch(sizes).planFor(minute);
        if (plan == null) {
            return "none";
        }
        StringBuilder told = new StringBuilder();
        told.append(plan.turns).append(':');
        for (int i = 0; i < plan.choices.size(); i++) {
            told.append(' ').append(plan.minutes.get(i)).append('/').append(plan.choices.get(i));
        }
        return told.toString();
    }

    private static void oneGlass() {
        IsochroneBench bench = told(12);
        CHECK.due("31: 12", bench.canMeasure(12), true);
        CHECK.due("31: 13", bench.canMeasure(13), false);
        CHECK.due("32 to 35: three times 12", planOf(bench, 36), "3: 0/1 12/1 24/1");
        CHECK.due("36: of one glass", bench.measurable(40), 3);
        IsochroneBench least = told(1);
        CHECK.due("32: 40 of 1", least.fewestTurns(40), 40);
        CHECK.due("33: 40 of 1", least.decisions(40), 40);
        CHECK.due("35: the last decision", least.minuteAt(40, 39) + "/" + least.turnedAt(40, 39), "39/1");
    }

    private static void theOrderTold() {
        CHECK.due("34: the first one told is 1", planOf(told(3, 5, 12), 12), "1: 0/4");
        CHECK.due("34: the first decision the lowest", planOf(told(5, 3), 8), "2: 0/1 5/2");
        CHECK.due("34: in the other order", planOf(told(3, 5), 8), "2: 0/1 3/2");
        CHECK.due("34: like glasses", planOf(told(6, 6), 12), "2: 0/1 6/1");
    }

    private static void stretches() {
        IsochroneBench bench = told(4, 7);
        CHECK.due("37: 1 lies between 7 and 8", bench.canStretch(1), true);
        CHECK.due("37: from the minute 0", bench.canStretch(40), true);
        CHECK.due("37: what can be measured", bench.canStretch(11), true);
        IsochroneBench even = told(12, 8, 4);
        CHECK.due("37: no multiple", even.canStretch(3), false);
        CHECK.due("37: a multiple", even.canStretch(4), true);
        CHECK.due("37: of one glass", told(12).canStretch(36) + " " + told(12).canStretch(37), "true false");
        IsochroneBench anew = told(5, 7, 11);
        anew.forget();
        CHECK.due("37: forgotten", anew.canStretch(5), false);
        anew.tell(12);
        anew.tell(4);
        CHECK.due("37: told anew", anew.canStretch(5) + " " + anew.canStretch(8), "false true");
        CHECK.due("37: without any", new IsochroneBench().canStretch(1), false);
    }

    private static void divisor() {
        CHECK.due("38: without any", new IsochroneBench().divisor(), 0);
        CHECK.due("38: of one", told(12).divisor(), 12);
        CHECK.due("38: of two", told(12, 8).divisor(), 4);
        CHECK.due("38: of three", told(12, 8, 6).divisor(), 2);
        CHECK.due("38: of primes", told(7, 11).divisor(), 1);
        CHECK.due("38: the last one counts", told(9, 9, 6).divisor(), 3);
    }

    private static void measurable() {
        IsochroneBench bench = told(4, 7);
        CHECK.due("36: of 4 and 7 up to 20", bench.measurable(20), 15);
        CHECK.due("36: up to 3", bench.measurable(3), 0);
        CHECK.due("36: up to 4", bench.measurable(4), 1);
        CHECK.due("36: of 1 up to 40", told(1).measurable(40), 40);
        CHECK.due("36: of 1 up to 1", told(1).measurable(1), 1);
        CHECK.due("36: of 12, 8 and 4", told(12, 8, 4).measurable(40), 10);
    }

    private static void wrongMinutes() {
        for (int minute : new int[] {0, -1, 41, Integer.MIN_VALUE, Integer.MAX_VALUE}) {
            String of = " of " + minute;
            CHECK.refused("31: canMeasure" + of, () -> told(4, 7), b -> b.canMeasure(minute), ARGUMENT);
            CHECK.refused("32: fewestTurns" + of, () -> told(4, 7), b -> b.fewestTurns(minute), ARGUMENT);
            CHECK.refused("33: decisions" + of, () -> told(4, 7), b -> b.decisions(minute), ARGUMENT);
            CHECK.refused("34: turnedAt" + of, () -> told(4, 7), b -> b.turnedAt(minute, 0), ARGUMENT);
            CHECK.refused("35: minuteAt" + of, () -> told(4, 7), b -> b.minuteAt(minute, 0), ARGUMENT);
            CHECK.refused("34: turnedAt, both wrong," + of, () -> told(4, 7), b -> b.turnedAt(minute, -1), ARGUMENT);
            CHECK.refused("35: minuteAt, both wrong," + of, () -> told(4, 7), b -> b.minuteAt(minute, 99), ARGUMENT);
            CHECK.refused("36: measurable" + of, () -> told(4, 7), b -> b.measurable(minute), ARGUMENT);
            CHECK.refused("37: canStretch" + of, () -> told(4, 7), b -> b.canStretch(minute), ARGUMENT);
            CHECK.refused("32: fewestTurns of none" + of, IsochroneBench::new, b -> b.fewestTurns(minute), ARGUMENT);
        }
        for (int minute : new int[] {1, 2, 3, 5, 6}) {
            refusesMinute(minute, 4, 7);
        }
        refusesMinute(40, 11, 12);
        refusesMinute(1);
        refusesMinute(40);
    }

    private static void refusesMinute(int minute, int... sizes) {
        if (planBySearch(minute, sizes).equals("none")) {
            CHECK.due("31: canMeasure " + minute, told(sizes).canMeasure(minute), false);
            CHECK.refused("32: fewestTurns " + minute, () -> told(sizes), b -> b.fewestTurns(minute), ELEMENT);
            CHECK.refused("33: decisions " + minute, () -> told(sizes), b -> b.decisions(minute), ELEMENT);
            CHECK.refused("34: turnedAt " + minute, () -> told(sizes), b -> b.turnedAt(minute, 0), ELEMENT);
            CHECK.refused("35: minuteAt " + minute, () -> told(sizes), b -> b.minuteAt(minute, 0), ELEMENT);
        }
    }

    private static void wrongDecisions() {
        for (int decision : new int[] {-1, 4, 40, 41, Integer.MIN_VALUE, Integer.MAX_VALUE}) {
            CHECK.refused("34: turnedAt 9, " + decision, () -> told(4, 7), b -> b.turnedAt(9, decision), ELEMENT);
            CHECK.refused("35: minuteAt 9, " + decision, () -> told(4, 7), b -> b.minuteAt(9, decision), ELEMENT);
        }
    }

    /** Each puzzle of one and two glasses, and many of three, in the orders in which they can be told. */
    private static void againstSearch() {
        for (int first = 1; first <= 12; first++) {
            agrees(first);
            for (int second = 1; second <= 12; second++) {
                agrees(first, second);
            }
        }
        int[][] threes = {{5, 7, 11}, {11, 5, 7}, {7, 11, 5}, {10, 11, 12}, {12, 10, 11}, {3, 4, 5}, {2, 9, 9},
            {12, 12, 12}, {1, 1, 1}, {9, 6, 12}, {8, 3, 5}, {1, 12, 7}, {12, 11, 1}, {6, 10, 4}};
        for (int[] three : threes) {
            agrees(three);
        }
    }

    private static void agrees(int... sizes) {
        PlanSearch search = new PlanSearch(sizes);
        boolean[] stretches = search.stretches();
        IsochroneBench bench = told(sizes);
        for (int minute = 1; minute <= 40; minute++) {
            String what = minute + " of " + search;
            PlanSearch.Plan plan = search.planFor(minute);
            CHECK.due("31: canMeasure " + what, bench.canMeasure(minute), plan != null);
            CHECK.due("37: canStretch " + what, bench.canStretch(minute), stretches[minute]);
            if (plan != null) {
                CHECK.due("32: fewestTurns " + what, bench.fewestTurns(minute), plan.turns);
                CHECK.due("33: decisions " + what, bench.decisions(minute), plan.choices.size());
                agreesInPlan(sizes, minute, plan);
            }
        }
        CHECK.due("47: isSound of " + search, bench.isSound(), true);
    }

    private static void agreesInPlan(int[] sizes, int minute, PlanSearch.Plan plan) {
        IsochroneBench bench = told(sizes);
        for (int i = 0; i < plan.choices.size(); i++) {
            CHECK.due("34: turnedAt " + minute + ", " + i, bench.turnedAt(minute, i), plan.choices.get(i));
            CHECK.due("35: minuteAt " + minute + ", " + i, bench.minuteAt(minute, i), plan.minutes.get(i));
        }
        CHECK.due("34: turnedAt beyond the plan for " + minute,
                Check.thrownBy(bench, b -> b.turnedAt(minute, plan.choices.size())), "NoSuchElementException");
    }
}
