import java.util.function.Supplier;

/** Promises 23 to 28. */
public final class RunsTest {
    private static final Class<IllegalArgumentException> ARGUMENT = IllegalArgumentException.class;
    private static final Class<IndexOutOfBoundsException> INDEX = IndexOutOfBoundsException.class;
    private static final Class<java.util.NoSuchElementException> ELEMENT = java.util.NoSuchElementException.class;
    private static final Check CHECK = new Check("RunsTest");

    public static void main(String[] args) {
        whatIsARun();
        again();
        lastTen();
        mean();
        spread();
        steadiest();
        knots();
        wrongOnes();
        CHECK.end();
    }

    /** A glass of 20, 3 forth and 5 back, that ran 4 seconds back and then 7 forth; another one ran 10. */
    private static IsochroneBench ran() {
        IsochroneBench bench = new IsochroneBench();
        bench.addGlass(20, 3, 5, 0);
        bench.addGlass(10, 1, 1, 0);
        bench.turn(0);
        bench.turn(1);
        bench.pass(9);
        bench.turn(0);
        bench.pass(11);
        return bench;
    }

    private static String runsOf(IsochroneBench bench, int glass) {
        StringBuilder told = new StringBuilder();
        for (int run = 0; run < bench.runs(glass); run++) {
            told.append(bench.runAt(glass, run)).append(' ');
        }
        return told.toString().trim();
    }

    private static void whatIsARun() {
        CHECK.due("23: runs of the first", ran().runs(0), 2);
        CHECK.due("24: the oldest first", runsOf(ran(), 0), "4 7");
        CHECK.due("24: of the other one", runsOf(ran(), 1), "10");
        IsochroneBench bench = new IsochroneBench();
        bench.addGlass(10, 2, 2, 0);
        bench.pour(0, 6);
        bench.pass(9);
        CHECK.due("23: never turned, none", bench.runs(0), 0);
        bench.turn(0);
        bench.turn(0);
        bench.pass(3);
        CHECK.due("23: nothing fell, none", bench.runs(0), 0);
        bench.turn(0);
        bench.pass(7);
        CHECK.due("23: not run out yet", bench.runs(0), 0);
        bench.pass(1);
        CHECK.due("23: run out", runsOf(bench, 0), "8");
        bench.pass(5);
        CHECK.due("23: no more by waiting", runsOf(bench, 0), "8");
        bench.turn(0);
        bench.stand(0, 'l');
        bench.pass(20);
        bench.stand(0, 'u');
        bench.pass(8);
        CHECK.due("24: lying counts too", runsOf(bench, 0), "8 28");
        bench.turn(0);
        bench.pass(3);
        bench.turn(0);
        bench.pass(3);
        CHECK.due("24: from the last turn on", runsOf(bench, 0), "8 28 3");
    }

    private static void again() {
        IsochroneBench bench = new IsochroneBench();
        bench.addGlass(10, 5, 5, 0);
        bench.addGlass(10, 9, 9, 0);
        bench.turn(0);
        bench.turn(1);
        bench.pass(4);
        bench.feed(0, 1);
        bench.turn(0);
        bench.pass(5);
        CHECK.due("24: without a turn one more, from that turn on", runsOf(bench, 1), "2 5 6");
        CHECK.due("24: the one that fed", runsOf(bench, 0), "2 2");
        bench.pour(1, 1);
        bench.pass(1);
        CHECK.due("24: and as it was poured in", runsOf(bench, 1), "2 5 6 10");
    }

    private static void lastTen() {
        IsochroneBench bench = new IsochroneBench();
        bench.addGlass(1, 1, 1, 0);
        bench.turn(0);
        for (int run = 1; run <= 10; run++) {
            bench.pass(1);
            bench.pour(0, 1);
        }
        CHECK.due("23: ten are kept", runsOf(bench, 0), "1 2 3 4 5 6 7 8 9 10");
        bench.pass(1);
        CHECK.due("23: and no more", bench.runs(0), 10);
        CHECK.due("24: the last ten", runsOf(bench, 0), "2 3 4 5 6 7 8 9 10 11");
        bench.pour(0, 1);
        bench.pass(1);
        CHECK.due("24: the last ten again", runsOf(bench, 0), "3 4 5 6 7 8 9 10 11 12");
        CHECK.due("25: of those kept", bench.meanRun(0), 7.5);
        CHECK.due("26: of those kept", bench.spread(0), 9);
        CHECK.due("28: the last one", bench.knots(0, 99), 2310);
    }

    private static void mean() {
        CHECK.due("25: of two", ran().meanRun(0), 5.5);
        CHECK.due("25: of one", ran().meanRun(1), 10.0);
        IsochroneBench bench = ran();
        bench.turn(0);
        bench.pass(4);
        CHECK.due("25: of three", bench.meanRun(0), 15.0 / 3.0);
        bench.turn(0);
        bench.pass(7);
        bench.turn(0);
        bench.pass(4);
        bench.turn(0);
        bench.pass(7);
        CHECK.due("25: no whole number", bench.meanRun(0), 33.0 / 6.0);
        bench.turn(0);
        bench.pass(4);
        CHECK.due("25: no short fraction", bench.meanRun(0), 37.0 / 7.0);
    }

    private static void spread() {
        CHECK.due("26: of two", ran().spread(0), 3);
        IsochroneBench bench = ran();
        bench.turn(0);
        bench.pass(2);
        bench.stand(0, 'l');
        bench.pass(20);
        bench.stand(0, 'u');
        bench.pass(2);
        bench.turn(0);
        bench.pass(7);
        CHECK.due("26: neither the first nor the last", runsOf(bench, 0) + ": " + bench.spread(0), "4 7 24 7: 20");
        bench.turn(1);
        bench.pass(10);
        CHECK.due("26: alike", bench.spread(1), 0);
        IsochroneBench shorter = new IsochroneBench();
        shorter.addGlass(20, 3, 2, 0);
        shorter.turn(0);
        shorter.pass(10);
        shorter.turn(0);
        shorter.pass(7);
        CHECK.due("26: the first one the longest", runsOf(shorter, 0) + ": " + shorter.spread(0), "10 7: 3");
    }

    private static void steadiest() {
        CHECK.due("27: the only one with two", ran().steadiest(), 0);
        IsochroneBench bench = ran();
        bench.turn(1);
        bench.pass(10);
        CHECK.due("27: the less differing", bench.steadiest(), 1);
        bench.addGlass(3, 1, 1, 0);
        bench.turn(2);
        bench.pass(3);
        bench.turn(2);
        bench.pass(3);
        CHECK.due("27: of like ones the lowest", bench.steadiest(), 1);
    }

    private static void knots() {
        CHECK.due("28: cut", ran().knots(0, 10), 400);
        CHECK.due("28: cut down", ran().knots(1, 1), 28);
        CHECK.due("28: none counted", ran().knots(0, 0), 0);
        CHECK.due("28: the most", ran().knots(0, 99), 3960);
        IsochroneBench bench = ran();
        bench.turn(0);
        bench.stand(0, 'l');
        bench.pass(9);
        bench.stand(0, 'u');
        bench.pass(4);
        CHECK.due("28: 1400 by 13", bench.knots(0, 5), 107);
        IsochroneBench quick = new IsochroneBench();
        quick.addGlass(1, 1, 1, 0);
        quick.turn(0);
        quick.pass(1);
        CHECK.due("28: a run of a second", quick.knots(0, 99), 27720);
    }

    private static void wrongOnes() {
        CHECK.noGlass("23: runs", RunsTest::ran, 2, g -> b -> b.runs(g));
        CHECK.noGlass("24: runAt", RunsTest::ran, 2, g -> b -> b.runAt(g, 0));
        CHECK.noGlass("24: runAt, both wrong", RunsTest::ran, 2, g -> b -> b.runAt(g, -1));
        CHECK.noGlass("25: meanRun", RunsTest::ran, 2, g -> b -> b.meanRun(g));
        CHECK.noGlass("26: spread", RunsTest::ran, 2, g -> b -> b.spread(g));
        CHECK.noGlass("28: knots", RunsTest::ran, 2, g -> b -> b.knots(g, 1));
        for (int run : new int[] {-1, 2, 10, Integer.MIN_VALUE, Integer.MAX_VALUE}) {
            CHECK.refused("24: runAt " + run, RunsTest::ran, b -> b.runAt(0, run), ELEMENT);
        }
        Supplier<IsochroneBench> none = () -> {
            IsochroneBench b = new IsochroneBench();
            b.addGlass(5, 1, 1, 0);
            return b;
        };
        CHECK.refused("24: runAt without runs", none, b -> b.runAt(0, 0), ELEMENT);
        CHECK.refused("25: meanRun without runs", none, b -> b.meanRun(0), ELEMENT);
        CHECK.refused("26: spread without runs", none, b -> b.spread(0), ELEMENT);
        CHECK.refused("26: spread of one run", RunsTest::ran, b -> b.spread(1), ELEMENT);
        CHECK.refused("27: steadiest without runs", none, b -> b.steadiest(), ELEMENT);
        CHECK.refused("27: steadiest without glasses", IsochroneBench::new, b -> b.steadiest(), ELEMENT);
        CHECK.refused("28: knots without runs", none, b -> b.knots(0, 1), ELEMENT);
        for (int counted : new int[] {-1, 100, Integer.MIN_VALUE, Integer.MAX_VALUE}) {
            CHECK.refused("28: knots " + counted, RunsTest::ran, b -> b.knots(0, counted), ARGUMENT);
            CHECK.refused("28: knots without runs " + counted, none, b -> b.knots(0, counted), ARGUMENT);
            CHECK.refused("28: knots, all wrong " + counted, none, b -> b.knots(1, counted), INDEX);
        }
    }
}
