/** Promises 16 to 22. */
public final class SecondsTest {
    private static final Class<IllegalArgumentException> ARGUMENT = IllegalArgumentException.class;
    private static final Class<IllegalStateException> STATE = IllegalStateException.class;
    private static final Class<IndexOutOfBoundsException> INDEX = IndexOutOfBoundsException.class;
    private static final Check CHECK = new Check("SecondsTest");

    public static void main(String[] args) {
        pass();
        lastSecond();
        chain();
        lots();
        lotsOfTwo();
        seed();
        gateAt();
        gateBehind();
        wrongGates();
        gatesOfAFedGlass();
        CHECK.end();
    }

    /** A glass that lets 7 fall forth, 100 above, a gate for 4 and one for 2 behind it. */
    private static IsochroneBench gated() {
        IsochroneBench bench = running(7, 100);
        bench.gateAt(0, 4);
        bench.gateBehind(0, 2);
        return bench;
    }

    private static IsochroneBench running(int rate, int above) {
        IsochroneBench bench = new IsochroneBench();
        bench.addGlass(1, rate, rate, 0);
        bench.pour(0, above);
        return bench;
    }

    private static void pass() {
        IsochroneBench bench = running(7, 100);
        CHECK.due("17: at first", bench.time(), 0);
        CHECK.due("16: one second", bench.pass(1), 1);
        CHECK.due("16: 7 fell", bench.above(0) + " " + bench.below(0), "93 8");
        CHECK.due("16: two more", bench.pass(2), 3);
        CHECK.due("16: 21 fell", bench.above(0), 79);
        CHECK.due("16: the longest", bench.pass(600), 603);
        CHECK.due("17: the second then", bench.time(), 603);
        CHECK.due("16: all fell", bench.above(0) + " " + bench.below(0), "0 101");
        for (int seconds : new int[] {0, -1, 601, Integer.MIN_VALUE, Integer.MAX_VALUE}) {
            CHECK.refused("16: pass " + seconds, SecondsTest::gated, b -> b.pass(seconds), ARGUMENT);
        }
    }

    private static void lastSecond() {
        CHECK.due("16: to the last second", near().pass(199), 19999);
        CHECK.refused("16: beyond the last second", SecondsTest::near, b -> b.pass(200), STATE);
        CHECK.refused("16: out of range, and beyond", SecondsTest::near, b -> b.pass(601), ARGUMENT);
        IsochroneBench last = near();
        last.pass(199);
        CHECK.due("16: one more", Check.thrownBy(last, b -> b.pass(1)), "IllegalStateException");
        CHECK.due("17: the last second", last.time(), 19999);
    }

    private static IsochroneBench near() {
        IsochroneBench bench = gated();
        for (int i = 0; i < 33; i++) {
            bench.pass(600);
        }
        return bench;
    }

    private static void chain() {
        IsochroneBench bench = running(5, 30);
        bench.addGlass(10, 3, 9, 0);
        bench.addGlass(10, 9, 9, 4);
        bench.feed(0, 1);
        bench.feed(1, 2);
        bench.pass(1);
        CHECK.due("16: in one second through three", bench.above(0) + " " + bench.above(1) + " " + bench.above(2)
                + " " + bench.below(2), "25 2 0 13");
    }

    private static int next(int z) {
        return (int) (z * 48271L % 2147483647L);
    }

    private static void lots() {
        IsochroneBench bench = running(1, 999);
        bench.setJam(0, 271);
        bench.pass(1);
        CHECK.due("16: the lot 271 is not less than 271", bench.state(0), 'r');
        CHECK.due("18: z is drawn", bench.seed(1), next(1));
        bench.setJam(0, 272);
        bench.pass(1);
        CHECK.due("16: but less than 272", bench.state(0), 'j');
        CHECK.due("16: nothing falls then", bench.above(0), 998);
        bench.pass(10);
        CHECK.due("16: nor later", bench.above(0), 998);
        CHECK.due("18: a jammed glass draws no lot", bench.seed(1), next(1));
        bench.tap(0);
        bench.stand(0, 'l');
        bench.pass(10);
        CHECK.due("18: a lying one draws none", bench.seed(1), 1);
        bench.stand(0, 'u');
        bench.setJam(0, 0);
        bench.pass(10);
        CHECK.due("18: one without a jam draws none", bench.seed(1), 1);
        bench.pass(600);
        bench.pass(600);
        bench.setJam(0, 500);
        bench.pass(10);
        CHECK.due("18: an empty one draws none", bench.seed(1), 1);
    }

    /** Two glasses draw by their numbers, and the fed one draws with what came in the same second. */
    private static void lotsOfTwo() {
        IsochroneBench bench = running(1, 999);
        bench.addGlass(50, 1, 1, 0);
        bench.feed(0, 1);
        bench.setJam(0, 100);
        bench.setJam(1, 100);
        int z = 1;
        boolean[] jammed = new boolean[2];
        for (int second = 0; second < 200; second++) {
            for (int glass = 0; glass < 2; glass++) {
                boolean draws = !jammed[glass] && (glass == 0 || !jammed[0] || bench.above(1) > 0);
                if (draws) {
                    z = next(z);
                    jammed[glass] = z % 1000 < 100;
                }
            }
            bench.pass(1);
            CHECK.due("16: jams at " + second, (bench.state(0) == 'j') + " " + (bench.state(1) == 'j'),
                    jammed[0] + " " + jammed[1]);
            bench.tap(0);
            bench.tap(1);
            jammed = new boolean[2];
        }
        CHECK.due("18: z after all lots", bench.seed(5), z);
    }

    private static void seed() {
        IsochroneBench bench = gated();
        CHECK.due("18: 1 at first", bench.seed(2147483646), 1);
        CHECK.due("18: the greatest", bench.seed(1), 2147483646);
        CHECK.due("18: the least", bench.seed(7), 1);
        CHECK.due("18: the one before", bench.seed(8), 7);
        for (int z : new int[] {0, -1, Integer.MAX_VALUE, Integer.MIN_VALUE}) {
            CHECK.refused("18: seed " + z, SecondsTest::gated, b -> b.seed(z), ARGUMENT);
        }
        IsochroneBench great = running(1, 10);
        great.seed(2147483646);
        great.setJam(0, 1);
        great.pass(1);
        CHECK.due("18: a great z", great.seed(1), next(2147483646));
    }

    private static void gateAt() {
        IsochroneBench bench = running(7, 100);
        bench.pass(1);
        CHECK.due("19: the first gate", bench.gateAt(0, 4), 0);
        CHECK.due("19: what fell before does not fill it", bench.filled(0) + " " + bench.tips(0), "0 0");
        CHECK.due("19: the second", bench.gateAt(0, 100), 1);
        CHECK.due("19: the third", bench.gateAt(0, 1), 2);
        bench.pass(1);
        CHECK.due("21: 7 in a gate for 4", bench.tips(0), 1);
        CHECK.due("22: 3 are left", bench.filled(0), 3);
        CHECK.due("21: a gate for 100", bench.tips(1) + " " + bench.filled(1), "0 7");
        CHECK.due("21: a gate for each", bench.tips(2) + " " + bench.filled(2), "7 0");
        bench.pass(1);
        CHECK.due("21: 14 in a gate for 4", bench.tips(0) + " " + bench.filled(0), "3 2");
        bench.turn(0);
        bench.pass(2);
        CHECK.due("21: it fills after a turn too", bench.tips(0) + " " + bench.filled(0), "7 0");
        bench.stand(0, 'l');
        bench.pass(9);
        CHECK.due("22: nothing comes", bench.tips(0) + " " + bench.filled(0), "7 0");
    }

    private static void gateBehind() {
        IsochroneBench bench = running(50, 999);
        bench.gateAt(0, 4);
        CHECK.due("20: behind a gate", bench.gateBehind(0, 5), 1);
        CHECK.due("20: behind that", bench.gateBehind(1, 1), 2);
        CHECK.due("20: another one behind the first", bench.gateBehind(0, 100), 3);
        CHECK.due("20: behind the last", bench.gateBehind(3, 100), 4);
        CHECK.due("20: the sixth", bench.gateBehind(1, 2), 5);
        bench.pass(1);
        CHECK.due("21: 50 grains are 12 tips", bench.tips(0) + " " + bench.filled(0), "12 2");
        CHECK.due("21: 12 tips are 2 tips of 5", bench.tips(1) + " " + bench.filled(1), "2 2");
        CHECK.due("21: and as many for each", bench.tips(2) + " " + bench.filled(2), "2 0");
        CHECK.due("22: 12 in the other one", bench.tips(3) + " " + bench.filled(3), "0 12");
        CHECK.due("22: none in the last", bench.tips(4) + " " + bench.filled(4), "0 0");
        CHECK.due("21: and 1 for two", bench.tips(5) + " " + bench.filled(5), "1 0");
        bench.pass(1);
        CHECK.due("21: 25 tips", bench.tips(0) + " " + bench.tips(1) + " " + bench.tips(5) + " " + bench.filled(5),
                "25 5 2 1");
    }

    private static void wrongGates() {
        CHECK.noGlass("19: gateAt", SecondsTest::gated, 1, g -> b -> b.gateAt(g, 5));
        CHECK.noGlass("20: gateBehind", SecondsTest::gated, 2, g -> b -> b.gateBehind(g, 5));
        CHECK.noGlass("21: tips", SecondsTest::gated, 2, g -> b -> b.tips(g));
        CHECK.noGlass("22: filled", SecondsTest::gated, 2, g -> b -> b.filled(g));
        for (int every : new int[] {0, -1, 101, Integer.MIN_VALUE, Integer.MAX_VALUE}) {
            CHECK.refused("19: gateAt for " + every, SecondsTest::gated, b -> b.gateAt(0, every), ARGUMENT);
            CHECK.refused("20: gateBehind for " + every, SecondsTest::gated, b -> b.gateBehind(1, every), ARGUMENT);
            CHECK.refused("19: a seventh for " + every, SecondsTest::six, b -> b.gateAt(0, every), ARGUMENT);
            CHECK.refused("20: a seventh behind for " + every, SecondsTest::six, b -> b.gateBehind(5, every), ARGUMENT);
        }
        CHECK.refused("19: a seventh", SecondsTest::six, b -> b.gateAt(0, 5), STATE);
        CHECK.refused("20: a seventh behind", SecondsTest::six, b -> b.gateBehind(5, 5), STATE);
        CHECK.refused("19: all wrong", SecondsTest::six, b -> b.gateAt(1, 0), INDEX);
        CHECK.refused("20: all wrong", SecondsTest::six, b -> b.gateBehind(6, 0), INDEX);
    }

    private static IsochroneBench six() {
        IsochroneBench bench = gated();
        bench.gateAt(0, 1);
        bench.gateAt(0, 100);
        bench.gateBehind(1, 1);
        bench.gateBehind(0, 100);
        return bench;
    }

    private static void gatesOfAFedGlass() {
        IsochroneBench bench = running(5, 30);
        bench.addGlass(10, 3, 3, 0);
        bench.feed(0, 1);
        bench.gateAt(1, 100);
        bench.gateAt(0, 100);
        bench.pass(2);
        CHECK.due("22: a gate fills by what falls in its own glass", bench.filled(0) + " " + bench.filled(1), "6 10");
    }
}
