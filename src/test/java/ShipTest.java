/** Promises 39 to 44. */
public final class ShipTest {
    private static final Check CHECK = new Check("ShipTest");

    public static void main(String[] args) {
        setShip();
        boy();
        boyIsATurn();
        noon();
        bellsAndWatches();
        wrongBy();
        CHECK.end();
    }

    /** Two glasses, no ship's glass yet, at the second 100. */
    private static IsochroneBench afloat() {
        IsochroneBench bench = new IsochroneBench();
        bench.addGlass(20, 3, 5, 0);
        bench.addGlass(10, 2, 2, 0);
        bench.pass(100);
        return bench;
    }

    private static IsochroneBench manned() {
        IsochroneBench bench = afloat();
        bench.setShip(1);
        return bench;
    }

    private static void setShip() {
        IsochroneBench bench = afloat();
        CHECK.due("39: none before", bench.setShip(1), -1);
        CHECK.due("39: the one before", bench.setShip(0), 1);
        CHECK.due("39: the same again", bench.setShip(0), 0);
        CHECK.noGlass("39: setShip", ShipTest::manned, 2, g -> b -> b.setShip(g));
        CHECK.noGlass("39: setShip of none before", ShipTest::afloat, 2, g -> b -> b.setShip(g));
    }

    private static void boy() {
        IsochroneBench bench = manned();
        CHECK.due("40: the first half hour", bench.boy(), 1);
        CHECK.due("40: he turned the glass", bench.above(1) + " " + bench.timesTurned(1), "10 1");
        CHECK.due("40: and no other one", bench.above(0) + " " + bench.timesTurned(0), "0 0");
        bench.setShip(0);
        CHECK.due("40: the count goes on with another glass", bench.boy(), 2);
        CHECK.due("40: which is turned then", bench.above(0) + " " + bench.above(1), "20 10");
        CHECK.refused("40: boy without a ship's glass", ShipTest::afloat, b -> b.boy(),
                UnsupportedOperationException.class);
        CHECK.refused("40: boy without glasses", IsochroneBench::new, b -> b.boy(),
                UnsupportedOperationException.class);
    }

    private static void boyIsATurn() {
        IsochroneBench bench = manned();
        bench.setJam(1, 999);
        bench.boy();
        bench.pass(1);
        CHECK.due("40: jammed", bench.state(1), 'j');
        bench.boy();
        CHECK.due("40: he frees it", bench.state(1), 'e');
        bench.setJam(1, 0);
        bench.boy();
        bench.pass(5);
        CHECK.due("40: a run from his turn on", bench.runAt(1, 0), 5);
        for (int i = 0; i < 37; i++) {
            bench.boy();
        }
        bench.pour(1, 500);
        CHECK.due("40: his turns wear the glass", bench.timesTurned(1) + " " + bench.falls(1), "40 3");
    }

    private static void noon() {
        IsochroneBench bench = manned();
        CHECK.due("41: no half hour yet", bench.noon(), 0);
        bench.boy();
        bench.boy();
        CHECK.due("41: two half hours", bench.noon(), 2);
        CHECK.due("41: none then", bench.noon(), 0);
        CHECK.due("41: the count begins anew", bench.boy(), 1);
    }

    private static void bellsAndWatches() {
        IsochroneBench bench = manned();
        CHECK.due("42: none at first", bench.bells(), 0);
        CHECK.due("43: the first watch", bench.watch(), 0);
        for (int count = 1; count <= 100; count++) {
            bench.boy();
            CHECK.due("42: bells at " + count, bench.bells(), count % 8 == 0 ? 8 : count % 8);
            CHECK.due("43: watch at " + count, bench.watch(), count / 8 % 6);
        }
        bench.noon();
        CHECK.due("42: none at noon", bench.bells(), 0);
        CHECK.due("43: the first watch at noon", bench.watch(), 0);
    }

    private static void wrongBy() {
        CHECK.due("44: at first", new IsochroneBench().wrongBy(), 0);
        IsochroneBench bench = manned();
        CHECK.due("44: 100 seconds, no half hour", bench.wrongBy(), -100);
        bench.boy();
        CHECK.due("44: a half hour", bench.wrongBy(), 1700);
        bench.pass(600);
        bench.boy();
        CHECK.due("44: two half hours", bench.wrongBy(), 2900);
        bench.noon();
        CHECK.due("44: at noon", bench.wrongBy(), 0);
        bench.pass(7);
        CHECK.due("44: since noon", bench.wrongBy(), -7);
        bench.boy();
        CHECK.due("44: a half hour since noon", bench.wrongBy(), 1793);
    }
}
