import java.util.function.Supplier;

/** Promises 1 to 15. */
public final class GlassesTest {
    private static final Class<IllegalArgumentException> ARGUMENT = IllegalArgumentException.class;
    private static final Class<IllegalStateException> STATE = IllegalStateException.class;
    private static final Class<IndexOutOfBoundsException> INDEX = IndexOutOfBoundsException.class;
    private static final Class<UnsupportedOperationException> UNSUPPORTED = UnsupportedOperationException.class;
    private static final Check CHECK = new Check("GlassesTest");

    public static void main(String[] args) {
        newObject();
        addGlass();
        aboveAndBelow();
        state();
        turn();
        stand();
        setJam();
        tap();
        pour();
        falls();
        wear();
        runTime();
        feed();
        grains();
        CHECK.end();
    }

    /** Two glasses: 0 has 15 above of 20, rate 3 forth and 5 back, funnel 4, and goes back; 1 is new. */
    private static IsochroneBench two() {
        IsochroneBench bench = new IsochroneBench();
        bench.addGlass(20, 3, 5, 4);
        bench.addGlass(10, 2, 2, 0);
        bench.turn(0);
        bench.pass(1);
        return bench;
    }

    /** A glass as told, poured so that it goes forth with grains above. */
    private static IsochroneBench poured(int forth, int back, int funnel, int above) {
        IsochroneBench bench = new IsochroneBench();
        bench.addGlass(1, forth, back, funnel);
        for (int left = above; left > 0; left -= 999) {
            bench.pour(0, Math.min(left, 999));
        }
        return bench;
    }

    private static void newObject() {
        IsochroneBench bench = new IsochroneBench();
        CHECK.due("1: time of a new bench", bench.time(), 0);
        CHECK.due("1: grains of a new bench", bench.grains(), 0);
        CHECK.due("1: checksum of a new bench", bench.checksum(), 7L * 31 * 31 + 1);
        CHECK.due("1: glasses of a new bench", Check.thrownBy(bench, b -> b.above(0)), "IndexOutOfBoundsException");
        CHECK.due("1: gates of a new bench", Check.thrownBy(bench, b -> b.tips(0)), "IndexOutOfBoundsException");
        CHECK.due("1: puzzle of a new bench", bench.forget(), 0);
        CHECK.due("1: minutes of a new bench", bench.measurable(40), 0);
        CHECK.due("1: z of a new bench", bench.seed(9), 1);
        CHECK.due("1: the ship of a new bench", Check.thrownBy(bench, b -> b.boy()), "UnsupportedOperationException");
        CHECK.due("1: isSound of a new bench", bench.isSound(), true);
    }

    private static void addGlass() {
        IsochroneBench bench = new IsochroneBench();
        CHECK.due("2: the least glass", bench.addGlass(1, 1, 1, 0), 0);
        CHECK.due("2: the greatest glass", bench.addGlass(9999, 50, 50, 99), 1);
        CHECK.due("2: all are below", bench.below(1) + " " + bench.above(1), "9999 0");
        int[][] wrong = {{0, 1, 1, 0}, {10000, 1, 1, 0}, {-1, 1, 1, 0}, {1, 0, 1, 0}, {1, 51, 1, 0}, {1, 1, 0, 0},
            {1, 1, 51, 0}, {1, 1, 1, -1}, {1, 1, 1, 100}, {Integer.MAX_VALUE, 1, 1, 0}, {1, Integer.MIN_VALUE, 1, 0}};
        for (int[] w : wrong) {
            CHECK.refused("2: addGlass" + java.util.Arrays.toString(w), GlassesTest::two,
                    b -> b.addGlass(w[0], w[1], w[2], w[3]), ARGUMENT);
        }
        CHECK.due("2: the eighth glass", eight().addGlass(1, 1, 1, 0), 7);
        Supplier<IsochroneBench> full = () -> {
            IsochroneBench b = eight();
            b.addGlass(5, 2, 3, 1);
            return b;
        };
        CHECK.refused("2: a ninth glass", full, b -> b.addGlass(1, 1, 1, 0), STATE);
        CHECK.refused("2: a ninth glass out of range", full, b -> b.addGlass(0, 1, 1, 0), ARGUMENT);
    }

    private static IsochroneBench eight() {
        IsochroneBench bench = new IsochroneBench();
        for (int i = 0; i < 7; i++) {
            CHECK.due("2: glass", bench.addGlass(10 + i, 2, 3, 1), i);
        }
        return bench;
    }

    private static void aboveAndBelow() {
        IsochroneBench bench = two();
        CHECK.due("3: above after a second", bench.above(0), 15);
        CHECK.due("3: above of a new glass", bench.above(1), 0);
        CHECK.due("4: below after a second", bench.below(0), 5);
        CHECK.due("4: below of a new glass", bench.below(1), 10);
        CHECK.noGlass("3: above", GlassesTest::two, 2, g -> b -> b.above(g));
        CHECK.noGlass("4: below", GlassesTest::two, 2, g -> b -> b.below(g));
    }

    private static void state() {
        IsochroneBench bench = two();
        CHECK.due("5: with grains above", bench.state(0), 'r');
        CHECK.due("5: without", bench.state(1), 'e');
        bench.stand(0, 't');
        CHECK.due("5: tilted with grains above", bench.state(0), 'r');
        bench.stand(0, 'l');
        bench.stand(1, 'l');
        CHECK.due("5: lies with grains above", bench.state(0), 'l');
        CHECK.due("5: lies without", bench.state(1), 'l');
        CHECK.due("5: with a single grain above", poured(1, 1, 0, 1).state(0), 'r');
        IsochroneBench jammed = jammed();
        CHECK.due("5: jammed", jammed.state(0), 'j');
        jammed.stand(0, 'l');
        CHECK.due("5: jammed, and lies", jammed.state(0), 'j');
        CHECK.noGlass("5: state", GlassesTest::two, 2, g -> b -> b.state(g));
    }

    /** Glass 0 of two, jammed: the first lot is 271. */
    private static IsochroneBench jammed() {
        IsochroneBench bench = two();
        bench.setJam(0, 272);
        bench.pass(1);
        return bench;
    }

    private static void turn() {
        IsochroneBench bench = two();
        CHECK.due("7: turned once", bench.timesTurned(0), 1);
        CHECK.due("7: never turned", bench.timesTurned(1), 0);
        CHECK.due("6: turn exchanges", bench.turn(0), 5);
        CHECK.due("6: below then", bench.below(0), 15);
        CHECK.due("6: it goes forth again", bench.falls(0), 3);
        CHECK.due("6: and back again", bench.turn(0) + " " + bench.falls(0), "15 5");
        CHECK.due("7: turned three times", bench.timesTurned(0), 3);
        bench.stand(0, 'l');
        CHECK.due("6: a lying glass can be turned", bench.turn(0), 5);
        IsochroneBench jammed = jammed();
        jammed.turn(0);
        CHECK.due("6: a turn frees", jammed.state(0), 'r');
        CHECK.due("6: nothing to tap then", jammed.tap(0), false);
        CHECK.noGlass("6: turn", GlassesTest::two, 2, g -> b -> b.turn(g));
        CHECK.noGlass("7: timesTurned", GlassesTest::two, 2, g -> b -> b.timesTurned(g));
    }

    private static void stand() {
        IsochroneBench bench = two();
        CHECK.due("8: upright at first", bench.stand(0, 't'), 'u');
        CHECK.due("8: tilted", bench.stand(0, 'l'), 't');
        CHECK.due("8: lies", bench.stand(0, 'u'), 'l');
        CHECK.due("8: as it stood", bench.stand(0, 'u'), 'u');
        CHECK.due("8: the other one stands", bench.stand(1, 'u'), 'u');
        bench.stand(0, 'l');
        bench.pass(3);
        CHECK.due("8: nothing falls in a lying glass", bench.above(0), 15);
        bench.stand(0, 't');
        bench.pass(1);
        CHECK.due("8: half of 5 falls in a tilted one", bench.above(0), 12);
        CHECK.noGlass("8: stand", GlassesTest::two, 2, g -> b -> b.stand(g, 'u'));
        for (char how : new char[] {'U', 'x', 'j', 0, 255, (char) 65535, (char) ('u' + 256)}) {
            CHECK.refused("8: stand " + (int) how, GlassesTest::two, b -> b.stand(0, how), ARGUMENT);
        }
        CHECK.refused("8: stand, both wrong", GlassesTest::two, b -> b.stand(2, 'x'), INDEX);
    }

    private static void setJam() {
        IsochroneBench bench = two();
        CHECK.due("9: no jam at first", bench.setJam(0, 999), 0);
        CHECK.due("9: the greatest jam", bench.setJam(0, 0), 999);
        CHECK.due("9: none again", bench.setJam(0, 1), 0);
        CHECK.due("9: the other glass has none", bench.setJam(1, 1), 0);
        IsochroneBench stuck = jammed();
        stuck.setJam(0, 0);
        CHECK.due("9: without a jam it stays jammed", stuck.state(0), 'j');
        stuck.pass(5);
        CHECK.due("9: and nothing falls", stuck.above(0), 15);
        CHECK.noGlass("9: setJam", GlassesTest::two, 2, g -> b -> b.setJam(g, 5));
        CHECK.refused("9: setJam -1", GlassesTest::two, b -> b.setJam(0, -1), ARGUMENT);
        CHECK.refused("9: setJam 1000", GlassesTest::two, b -> b.setJam(0, 1000), ARGUMENT);
        CHECK.refused("9: setJam, both wrong", GlassesTest::two, b -> b.setJam(2, 1000), INDEX);
    }

    private static void tap() {
        IsochroneBench bench = jammed();
        CHECK.due("10: tap a jammed one", bench.tap(0), true);
        CHECK.due("10: tap it again", bench.tap(0), false);
        CHECK.due("10: it is free", bench.state(0), 'r');
        bench.setJam(0, 0);
        bench.pass(1);
        CHECK.due("10: it goes on", bench.above(0), 10);
        CHECK.due("10: tap another", bench.tap(1), false);
        CHECK.noGlass("10: tap", GlassesTest::two, 2, g -> b -> b.tap(g));
    }

    private static void pour() {
        IsochroneBench bench = two();
        CHECK.due("11: the least", bench.pour(0, 1), 16);
        CHECK.due("11: the most", bench.pour(0, 999), 1015);
        CHECK.due("11: below stays", bench.below(0), 5);
        CHECK.due("11: the other one stays", bench.above(1), 0);
        CHECK.due("11: poured grains fall", bench.pass(1) + " " + bench.above(0), "2 1010");
        CHECK.noGlass("11: pour", GlassesTest::two, 2, g -> b -> b.pour(g, 5));
        for (int grains : new int[] {0, -1, 1000, Integer.MAX_VALUE, Integer.MIN_VALUE}) {
            CHECK.refused("11: pour " + grains, GlassesTest::two, b -> b.pour(0, grains), ARGUMENT);
        }
        CHECK.due("11: to the brim", nearlyFull().pour(0, 10), 10000);
        CHECK.refused("11: one too many", GlassesTest::nearlyFull, b -> b.pour(0, 11), STATE);
        CHECK.refused("11: out of range into a full one", GlassesTest::nearlyFull, b -> b.pour(0, 1000), ARGUMENT);
        CHECK.refused("11: all wrong", GlassesTest::nearlyFull, b -> b.pour(1, 1000), INDEX);
    }

    /** 9999 grains below and 9990 above: 10 more are the limit. */
    private static IsochroneBench nearlyFull() {
        IsochroneBench bench = new IsochroneBench();
        bench.addGlass(9999, 1, 1, 0);
        for (int i = 0; i < 10; i++) {
            bench.pour(0, 999);
        }
        return bench;
    }

    private static void falls() {
        CHECK.due("12: forth", poured(7, 3, 0, 100).falls(0), 7);
        CHECK.due("12: nothing above", two().falls(1), 0);
        CHECK.due("12: no more than are above", poured(7, 3, 0, 6).falls(0), 6);
        CHECK.due("12: above the funnel", poured(7, 3, 20, 21).falls(0), 7);
        CHECK.due("12: as many as the funnel", poured(7, 3, 20, 20).falls(0), 4);
        CHECK.due("12: half of an even rate", poured(6, 3, 20, 20).falls(0), 3);
        IsochroneBench tilted = poured(5, 3, 20, 21);
        tilted.stand(0, 't');
        CHECK.due("12: tilted", tilted.falls(0), 3);
        tilted.pass(1);
        CHECK.due("12: tilted in the funnel", tilted.falls(0), 2);
        tilted.stand(0, 'l');
        CHECK.due("12: lying", tilted.falls(0), 0);
        CHECK.due("12: the least rate, halved twice", halvedTwice().falls(0), 1);
        CHECK.due("12: jams aside", jammed().falls(0), 5);
        CHECK.noGlass("12: falls", GlassesTest::two, 2, g -> b -> b.falls(g));
    }

    private static IsochroneBench halvedTwice() {
        IsochroneBench bench = poured(1, 1, 9, 5);
        bench.stand(0, 't');
        return bench;
    }

    private static void wear() {
        IsochroneBench bench = new IsochroneBench();
        bench.addGlass(100, 4, 9, 0);
        for (int i = 0; i < 39; i++) {
            bench.turn(0);
        }
        CHECK.due("12: 39 turns wear nothing", bench.falls(0), 9);
        bench.turn(0);
        bench.pour(0, 500);
        CHECK.due("12: 40 turns wear 1", bench.falls(0), 5);
        for (int i = 0; i < 39; i++) {
            bench.turn(0);
        }
        CHECK.due("12: 79 turns wear 1", bench.falls(0), 10);
        bench.turn(0);
        CHECK.due("12: 80 turns wear 2", bench.falls(0), 6);
        bench.pass(1);
        CHECK.due("12: the worn rate falls", bench.above(0), 494);
    }

    private static void runTime() {
        CHECK.due("13: above the funnel alone", two().runTime(0), 3);
        CHECK.due("13: above the funnel, then half", poured(5, 9, 9, 20).runTime(0), 5);
        CHECK.due("13: nothing above", two().runTime(1), 0);
        CHECK.due("13: a long run", poured(1, 1, 0, 19998).runTime(0), 19998);
        CHECK.due("13: without jams", jammed().runTime(0), 3);
        CHECK.noGlass("13: runTime", GlassesTest::two, 2, g -> b -> b.runTime(g));
        for (int glass = 0; glass < 2; glass++) {
            int lying = glass;
            CHECK.refused("13: runTime of a lying one, " + glass, () -> {
                IsochroneBench b = two();
                b.stand(lying, 'l');
                return b;
            }, b -> b.runTime(lying), UNSUPPORTED);
        }
        for (int rate = 1; rate <= 50; rate += 3) {
            for (int funnel = 0; funnel <= 99; funnel += 11) {
                for (int above = 1; above <= 300; above += 23) {
                    runsAsTold(rate, funnel, above, 'u');
                    runsAsTold(rate, funnel, above, 't');
                }
            }
        }
    }

    private static void runsAsTold(int rate, int funnel, int above, char how) {
        IsochroneBench bench = poured(rate, 1, funnel, above);
        bench.stand(0, how);
        int told = bench.runTime(0);
        if (told > 1) {
            bench.pass(told - 1);
        }
        boolean before = bench.above(0) > 0;
        bench.pass(1);
        CHECK.due("13: " + rate + " " + funnel + " " + above + how + " runs " + told,
                before && bench.above(0) == 0, true);
    }

    private static void feed() {
        IsochroneBench bench = two();
        CHECK.due("14: none at first", bench.feed(0, 1), -1);
        CHECK.due("14: the one before", bench.feed(0, 1), 1);
        bench.pass(1);
        CHECK.due("14: it falls on, and through, at once", bench.above(1) + " " + bench.below(1), "3 12");
        CHECK.due("14: what fed stays below", bench.above(0) + " " + bench.below(0), "10 5");
        CHECK.due("14: none", bench.feed(0, -1), 1);
        CHECK.due("14: none before", bench.feed(0, -1), -1);
        bench.pass(1);
        CHECK.due("14: it falls below again", bench.above(0) + " " + bench.below(0), "5 10");
        CHECK.noGlass("14: feed", GlassesTest::two, 2, g -> b -> b.feed(g, 1));
        CHECK.noGlass("14: feed none", GlassesTest::two, 2, g -> b -> b.feed(g, -1));
        for (int other : new int[] {-2, 2, 8, Integer.MIN_VALUE, Integer.MAX_VALUE}) {
            CHECK.refused("14: feed " + other, GlassesTest::two, b -> b.feed(0, other), INDEX);
        }
        CHECK.refused("14: feed itself", GlassesTest::two, b -> b.feed(1, 1), UNSUPPORTED);
        CHECK.refused("14: feed a lower one", GlassesTest::two, b -> b.feed(1, 0), UNSUPPORTED);
        fedBeyondTheBrim();
    }

    private static void fedBeyondTheBrim() {
        IsochroneBench bench = nearlyFull();
        bench.addGlass(9999, 1, 1, 0);
        for (int i = 0; i < 10; i++) {
            bench.pour(1, 999);
        }
        bench.pour(1, 10);
        bench.stand(1, 'l');
        bench.feed(0, 1);
        bench.pass(5);
        CHECK.due("14: a full glass can be fed", bench.above(1), 10005);
        CHECK.due("11: but not poured in", Check.thrownBy(bench, b -> b.pour(1, 1)), "IllegalStateException");
    }

    private static void grains() {
        IsochroneBench bench = two();
        CHECK.due("15: of two glasses", bench.grains(), 30);
        bench.pour(1, 7);
        CHECK.due("15: and poured in", bench.grains(), 37);
        bench.feed(0, 1);
        bench.pass(2);
        CHECK.due("15: none is lost", bench.grains(), 37);
    }
}
