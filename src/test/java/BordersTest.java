/** The borders that "Terms" names for glasses, seconds, feeding, gates and runs, from both sides. */
public final class BordersTest {
    private static final int LAST_Z = 2147483646;
    private static final Check CHECK = new Check("BordersTest");

    public static void main(String[] args) {
        eightGlasses();
        numbersOfAGlass();
        funnels();
        ways();
        jamsAndLots();
        lotsByTheModulus();
        wear();
        halves();
        noMoreThanAreAbove();
        pouring();
        runTimes();
        feeding();
        sixGates();
        everyGate();
        tipsThatCarry();
        secondsThatPass();
        whatIsARun();
        tenRuns();
        steadier();
        knots();
        CHECK.end();
    }

    /** A glass that goes forth with grains above, and with one below. */
    private static IsochroneBench running(int forth, int funnel, int above) {
        IsochroneBench bench = new IsochroneBench();
        bench.addGlass(1, forth, 1, funnel);
        for (int left = above; left > 0; left -= 999) {
            bench.pour(0, Math.min(left, 999));
        }
        return bench;
    }

    private static String levels(IsochroneBench bench, int glass) {
        return bench.above(glass) + "/" + bench.below(glass);
    }

    private static String gate(IsochroneBench bench, int gate) {
        return bench.tips(gate) + "+" + bench.filled(gate);
    }

    private static String runsOf(IsochroneBench bench, int glass) {
        StringBuilder told = new StringBuilder();
        for (int run = 0; run < bench.runs(glass); run++) {
            told.append(run == 0 ? "" : " ").append(bench.runAt(glass, run));
        }
        return told.toString();
    }

    private static void turnOften(IsochroneBench bench, int times) {
        for (int i = 0; i < times; i++) {
            bench.turn(0);
        }
    }

    /** "At most 8 are numbered from 0." */
    private static void eightGlasses() {
        IsochroneBench bench = new IsochroneBench();
        CHECK.due("no grains without glasses", bench.grains(), 0);
        for (int i = 0; i < 8; i++) {
            CHECK.due("the glass before " + i, Check.thrownBy(bench, b -> b.below(0)).startsWith("answer"), i > 0);
            CHECK.due("glass " + i, bench.addGlass(i + 1, 1, 1, 0), i);
            CHECK.due("below in " + i, levels(bench, i), "0/" + (i + 1));
        }
        CHECK.due("a ninth", Check.thrownBy(bench, b -> b.addGlass(1, 1, 1, 0)), "IllegalStateException");
        CHECK.due("the grains of eight", bench.grains(), 36);
        CHECK.due("the last one is turned", bench.turn(7), 8);
        bench.pass(7);
        CHECK.due("and goes", levels(bench, 7), "1/7");
        bench.pass(1);
        CHECK.due("and runs out", levels(bench, 7) + " " + runsOf(bench, 7), "0/8 8");
        CHECK.due("no other one did", levels(bench, 6) + " " + bench.runs(6), "0/7 0");
    }

    /** "Each of 1 to 9999 grains, all below at first, with a rate forth and one back, 1 to 50 grains." */
    private static void numbersOfAGlass() {
        int[][] fine = {{1, 1, 1, 0}, {9999, 1, 1, 0}, {1, 50, 1, 0}, {1, 1, 50, 0}, {1, 1, 1, 99}, {9999, 50, 50, 99}};
        int[][] wrong = {{0, 1, 1, 0}, {10000, 1, 1, 0}, {1, 0, 1, 0}, {1, 51, 1, 0}, {1, 1, 0, 0}, {1, 1, 51, 0},
            {1, 1, 1, -1}, {1, 1, 1, 100}};
        for (int[] f : fine) {
            IsochroneBench bench = new IsochroneBench();
            CHECK.due("addGlass" + java.util.Arrays.toString(f), bench.addGlass(f[0], f[1], f[2], f[3]), 0);
            CHECK.due("all below", levels(bench, 0), "0/" + f[0]);
            CHECK.due("empty", bench.state(0) + " " + bench.falls(0) + " " + bench.runTime(0), "e 0 0");
        }
        for (int[] w : wrong) {
            CHECK.due("addGlass" + java.util.Arrays.toString(w), Check.thrownBy(new IsochroneBench(),
                    b -> b.addGlass(w[0], w[1], w[2], w[3])), "IllegalArgumentException");
        }
        CHECK.due("the greatest rate forth", running(50, 0, 999).falls(0), 50);
        CHECK.due("the least rate forth", running(1, 0, 999).falls(0), 1);
        IsochroneBench back = new IsochroneBench();
        back.addGlass(9999, 1, 50, 0);
        back.turn(0);
        CHECK.due("the greatest rate back", back.falls(0), 50);
        back.pass(1);
        CHECK.due("falls", levels(back, 0), "9949/50");
    }

    /** "If no more than the funnel are above, half." */
    private static void funnels() {
        CHECK.due("funnel 0, 1 above, rate 1", running(1, 0, 1).falls(0), 1);
        CHECK.due("funnel 0, 2 above", running(2, 0, 2).falls(0), 2);
        CHECK.due("funnel 1, 2 above", running(2, 1, 2).falls(0), 2);
        CHECK.due("funnel 2, 2 above", running(2, 2, 2).falls(0), 1);
        CHECK.due("funnel 1, 1 above", running(2, 1, 1).falls(0), 1);
        CHECK.due("funnel 99, 100 above", running(50, 99, 100).falls(0), 50);
        CHECK.due("funnel 99, 99 above", running(50, 99, 99).falls(0), 25);
        CHECK.due("funnel 98, 99 above", running(50, 98, 99).falls(0), 50);
        IsochroneBench bench = running(4, 10, 18);
        bench.pass(1);
        CHECK.due("14 are more than 10", bench.above(0) + " " + bench.falls(0), "14 4");
        bench.pass(1);
        CHECK.due("10 are no more than 10", bench.above(0) + " " + bench.falls(0), "10 2");
        bench.pass(4);
        CHECK.due("the last two", bench.above(0) + " " + bench.falls(0), "2 2");
        bench.pass(1);
        CHECK.due("none", bench.above(0) + " " + bench.falls(0), "0 0");
    }

    /** "It goes forth at first; a turn exchanges what is above and below, lets it go the other way." */
    private static void ways() {
        IsochroneBench bench = new IsochroneBench();
        bench.addGlass(30, 7, 4, 0);
        bench.pour(0, 100);
        CHECK.due("forth at first", bench.falls(0), 7);
        CHECK.due("turned once", bench.turn(0) + " " + levels(bench, 0) + " " + bench.falls(0), "30 30/100 4");
        CHECK.due("turned twice", bench.turn(0) + " " + levels(bench, 0) + " " + bench.falls(0), "100 100/30 7");
        CHECK.due("turned three times", bench.turn(0) + " " + bench.falls(0), "30 4");
        bench.pass(8);
        CHECK.due("turned with nothing above", levels(bench, 0) + " " + bench.turn(0), "0/130 130");
        CHECK.due("turned with nothing below", bench.turn(0) + " " + bench.state(0), "0 e");
        CHECK.due("how often", bench.timesTurned(0), 5);
    }

    private static int next(long z) {
        return (int) (z * 48271 % 2147483647);
    }

    /** A bench whose next lot is told by z, with a glass that has that jam. */
    private static IsochroneBench jammable(int z, int jam) {
        IsochroneBench bench = running(1, 0, 5);
        bench.seed(z);
        bench.setJam(0, jam);
        return bench;
    }

    /** "With a jam, 0 to 999, above 0, and not jammed, a lot is drawn, and with a lot less than that it is jammed." */
    private static void jamsAndLots() {
        int[][] lots = {{1000, 0}, {631, 1}, {738, 998}, {369, 999}, {1, 271}};
        int[] jams = {1, 2, 271, 272, 998, 999};
        for (int[] lot : lots) {
            CHECK.due("the lot of z " + lot[0], next(lot[0]) % 1000, lot[1]);
            for (int jam : jams) {
                IsochroneBench bench = jammable(lot[0], jam);
                bench.pass(1);
                boolean jammed = lot[1] < jam;
                CHECK.due("lot " + lot[1] + ", jam " + jam, bench.state(0), jammed ? 'j' : 'r');
                CHECK.due("what is above then", bench.above(0), jammed ? 5 : 4);
                CHECK.due("one lot was drawn", bench.seed(1), next(lot[0]));
            }
            IsochroneBench bench = jammable(lot[0], 0);
            bench.pass(1);
            CHECK.due("no jam, no lot", bench.seed(1) + " " + bench.state(0), lot[0] + " r");
        }
        freed();
    }

    /** "Jammed ones let nothing fall till they are tapped or turned." */
    private static void freed() {
        IsochroneBench tapped = jammable(1000, 1);
        tapped.pass(600);
        CHECK.due("for 600 seconds", tapped.above(0) + " " + tapped.state(0) + " " + tapped.tap(0), "5 j true");
        CHECK.due("600 seconds and a single lot", tapped.seed(631), 48271000);
        CHECK.due("a tap is enough", tapped.state(0) + " " + tapped.tap(0), "r false");
        tapped.pass(1);
        CHECK.due("then it draws again, and goes", tapped.above(0) + " " + tapped.seed(1), "4 " + next(631));
        IsochroneBench turned = jammable(1000, 1);
        turned.pass(1);
        CHECK.due("a turn is enough", turned.turn(0) + " " + turned.state(0) + " " + turned.tap(0), "1 r false");
        turned.setJam(0, 0);
        turned.pass(1);
        CHECK.due("then it goes", levels(turned, 0) + " " + runsOf(turned, 0), "0/6 1");
        IsochroneBench lying = jammable(1000, 1);
        lying.pass(1);
        lying.stand(0, 'l');
        CHECK.due("j before l", lying.state(0), 'j');
        lying.stand(0, 'u');
        lying.pass(1);
        CHECK.due("to lie frees nothing", lying.state(0) + " " + lying.above(0), "j 5");
        lying.stand(0, 'l');
        lying.tap(0);
        CHECK.due("l before r", lying.state(0), 'l');
    }

    /** "A lot makes z, 1 at first, z times 48271 modulo 2147483647, and is that modulo 1000." */
    private static void lotsByTheModulus() {
        int[][] steps = {{1, 48271}, {44488, 2147480248}, {44489, 44872}, {LAST_Z, 2147435376}, {1899818559, 1},
            {247665088, LAST_Z}, {2, 96542}};
        for (int[] step : steps) {
            IsochroneBench bench = jammable(step[0], 999);
            bench.pass(1);
            CHECK.due("z behind " + step[0], bench.seed(1), step[1]);
            CHECK.due("jammed by " + step[1] % 1000, bench.tap(0), step[1] % 1000 < 999);
        }
        IsochroneBench bench = new IsochroneBench();
        CHECK.due("seed, the last", bench.seed(LAST_Z), 1);
        CHECK.due("seed, behind the last", Check.thrownBy(bench, b -> b.seed(2147483647)), "IllegalArgumentException");
        CHECK.due("seed, before the first", Check.thrownBy(bench, b -> b.seed(0)), "IllegalArgumentException");
        CHECK.due("seed, the first", bench.seed(1), LAST_Z);
    }

    /** "And 1 more for each 40 turns that it had, full ones alone counted." */
    private static void wear() {
        IsochroneBench bench = running(50, 0, 999);
        int turned = 0;
        for (int[] due : new int[][] {{38, 50}, {40, 51}, {78, 51}, {80, 52}, {118, 52}, {120, 53}, {398, 59},
            {400, 60}, {478, 61}, {480, 62}}) {
            turnOften(bench, due[0] - turned);
            turned = due[0];
            CHECK.due("forth behind " + due[0] + " turns", bench.falls(0), due[1]);
        }
        bench.pass(1);
        CHECK.due("a worn glass lets 62 fall", levels(bench, 0), "937/63");
        IsochroneBench back = new IsochroneBench();
        back.addGlass(9999, 1, 50, 0);
        turnOften(back, 39);
        CHECK.due("back behind 39 turns", back.falls(0), 50);
        turnOften(back, 2);
        CHECK.due("back behind 41 turns", back.falls(0), 51);
    }

    /** "Of that half, rounded up; of what comes, if it is tilted, half, rounded up." */
    private static void halves() {
        for (int rate = 1; rate <= 50; rate++) {
            int half = rate - rate / 2;
            int quarter = half - half / 2;
            IsochroneBench whole = running(rate, 98, 99);
            CHECK.due("upright above the funnel, rate " + rate, whole.falls(0), rate);
            whole.stand(0, 't');
            CHECK.due("tilted above the funnel, rate " + rate, whole.falls(0), half);
            IsochroneBench narrow = running(rate, 99, 99);
            CHECK.due("upright in the funnel, rate " + rate, narrow.falls(0), half);
            narrow.stand(0, 't');
            CHECK.due("tilted in the funnel, rate " + rate, narrow.falls(0), quarter);
            narrow.pass(1);
            CHECK.due("what fell at rate " + rate, narrow.above(0), 99 - quarter);
        }
        IsochroneBench worn = running(50, 99, 60);
        turnOften(worn, 40);
        CHECK.due("the half of a worn rate", worn.falls(0), 26);
        worn.stand(0, 't');
        CHECK.due("and the half of that", worn.falls(0), 13);
    }

    /** "But no more than are above." */
    private static void noMoreThanAreAbove() {
        int[][] due = {{6, 6, 0, 7}, {7, 7, 0, 8}, {8, 7, 1, 8}};
        for (int[] d : due) {
            IsochroneBench bench = running(7, 0, d[0]);
            CHECK.due("falls of " + d[0], bench.falls(0), d[1]);
            bench.pass(1);
            CHECK.due("left of " + d[0], levels(bench, 0), d[2] + "/" + d[3]);
        }
        IsochroneBench tilted = running(7, 0, 3);
        tilted.stand(0, 't');
        CHECK.due("the half of 7, but 3 are above", tilted.falls(0), 3);
        CHECK.due("the half of 7, of 5", running(7, 5, 5).falls(0), 4);
        CHECK.due("the half of 7, of 4", running(7, 5, 4).falls(0), 4);
        CHECK.due("the half of 7, of 3", running(7, 5, 3).falls(0), 3);
    }

    /** pour: 1 to 999; the glass would have more than 19999. */
    private static void pouring() {
        IsochroneBench bench = new IsochroneBench();
        bench.addGlass(9999, 1, 1, 0);
        CHECK.due("pour 0", Check.thrownBy(bench, b -> b.pour(0, 0)), "IllegalArgumentException");
        CHECK.due("pour 1", bench.pour(0, 1), 1);
        CHECK.due("pour 1000", Check.thrownBy(bench, b -> b.pour(0, 1000)), "IllegalArgumentException");
        for (int i = 1; i <= 10; i++) {
            CHECK.due("pour 999", bench.pour(0, 999), 1 + 999 * i);
        }
        CHECK.due("pour to 20000", Check.thrownBy(bench, b -> b.pour(0, 10)), "IllegalStateException");
        CHECK.due("pour to 19998", bench.pour(0, 8), 9999);
        CHECK.due("pour 2 to 20000", Check.thrownBy(bench, b -> b.pour(0, 2)), "IllegalStateException");
        CHECK.due("pour 1 to 19999", bench.pour(0, 1), 10000);
        CHECK.due("pour 1 to 20000", Check.thrownBy(bench, b -> b.pour(0, 1)), "IllegalStateException");
        bench.turn(0);
        CHECK.due("a turn makes no room", Check.thrownBy(bench, b -> b.pour(0, 1)), "IllegalStateException");
        CHECK.due("all are there", bench.grains() + " " + levels(bench, 0), "19999 9999/10000");
    }

    /** runTime: 0 if nothing is above; the funnel's border in the midst of a run. */
    private static void runTimes() {
        int[][] due = {{5, 0, 0, 0}, {5, 0, 1, 1}, {5, 0, 5, 1}, {5, 0, 6, 2}, {5, 6, 6, 2}, {5, 5, 6, 2}, {5, 9, 9, 3},
            {5, 9, 10, 3}, {5, 9, 14, 4}, {5, 9, 15, 4}, {5, 9, 19, 5}, {50, 99, 99, 4}, {50, 99, 100, 3},
            {50, 99, 149, 5}, {1, 99, 99, 99}};
        for (int[] d : due) {
            IsochroneBench bench = running(d[0], d[1], d[2]);
            CHECK.due("runTime " + java.util.Arrays.toString(d), bench.runTime(0), d[3]);
            if (d[3] > 1) {
                bench.pass(d[3] - 1);
                CHECK.due("still running " + java.util.Arrays.toString(d), bench.state(0), 'r');
            }
            bench.pass(1);
            CHECK.due("run out " + java.util.Arrays.toString(d), bench.state(0), 'e');
        }
    }

    /** "A glass can feed one with a higher number, or none, as at first"; "at once". */
    private static void feeding() {
        IsochroneBench bench = new IsochroneBench();
        for (int i = 0; i < 8; i++) {
            bench.addGlass(1, 2, 2, 0);
            CHECK.due("none at first, " + i, bench.feed(i, -1), -1);
        }
        CHECK.due("the next one", bench.feed(0, 1) + " " + bench.feed(6, 7), "-1 -1");
        CHECK.due("the last one", bench.feed(0, 7), 1);
        CHECK.due("itself", Check.thrownBy(bench, b -> b.feed(7, 7)), "UnsupportedOperationException");
        CHECK.due("the one before", Check.thrownBy(bench, b -> b.feed(7, 6)), "UnsupportedOperationException");
        CHECK.due("none behind the last", Check.thrownBy(bench, b -> b.feed(7, 8)), "IndexOutOfBoundsException");
        CHECK.due("none before -1", Check.thrownBy(bench, b -> b.feed(7, -2)), "IndexOutOfBoundsException");
        CHECK.due("none", bench.feed(7, -1) + " " + bench.feed(0, -1), "-1 7");
        for (int i = 0; i < 7; i++) {
            bench.feed(i, i + 1);
        }
        bench.pour(0, 1);
        bench.pass(1);
        CHECK.due("in one second from the first through the last", levels(bench, 0) + " " + levels(bench, 6) + " "
                + levels(bench, 7), "0/1 0/1 0/2");
        lotsOfFedOnes();
    }

    /** "Has grains above as its turn comes." */
    private static void lotsOfFedOnes() {
        IsochroneBench fed = running(1, 0, 1);
        fed.addGlass(1, 1, 1, 0);
        fed.setJam(1, 1);
        fed.pass(1);
        CHECK.due("nothing came, no lot", fed.seed(1), 1);
        IsochroneBench other = running(1, 0, 1);
        other.addGlass(1, 1, 1, 0);
        other.setJam(1, 1);
        other.feed(0, 1);
        other.pass(1);
        CHECK.due("one grain came, one lot", other.seed(1) + " " + levels(other, 1), "48271 0/2");
    }

    /** "At most 6 are numbered from 0, each for every 1 to 100." */
    private static void sixGates() {
        IsochroneBench bench = running(1, 0, 5);
        CHECK.due("gateBehind none", Check.thrownBy(bench, b -> b.gateBehind(0, 1)), "IndexOutOfBoundsException");
        CHECK.due("for every 0", Check.thrownBy(bench, b -> b.gateAt(0, 0)), "IllegalArgumentException");
        CHECK.due("for every 101", Check.thrownBy(bench, b -> b.gateAt(0, 101)), "IllegalArgumentException");
        CHECK.due("for every 1", bench.gateAt(0, 1), 0);
        CHECK.due("behind itself", Check.thrownBy(bench, b -> b.gateBehind(1, 1)), "IndexOutOfBoundsException");
        CHECK.due("behind, for every 0", Check.thrownBy(bench, b -> b.gateBehind(0, 0)), "IllegalArgumentException");
        CHECK.due("behind, for every 101", Check.thrownBy(bench, b -> b.gateBehind(0, 101)),
                "IllegalArgumentException");
        CHECK.due("behind, for every 1", bench.gateBehind(0, 1), 1);
        CHECK.due("for every 100", bench.gateAt(0, 100), 2);
        CHECK.due("behind, for every 100", bench.gateBehind(0, 100), 3);
        CHECK.due("the fifth", bench.gateBehind(3, 2), 4);
        CHECK.due("no sixth yet", Check.thrownBy(bench, b -> b.tips(5)), "IndexOutOfBoundsException");
        CHECK.due("the sixth", bench.gateBehind(1, 2), 5);
        CHECK.due("the sixth is empty", gate(bench, 5), "0+0");
        CHECK.due("a seventh", Check.thrownBy(bench, b -> b.gateAt(0, 1)), "IllegalStateException");
        CHECK.due("a seventh behind", Check.thrownBy(bench, b -> b.gateBehind(5, 1)), "IllegalStateException");
        bench.pass(5);
        CHECK.due("the sixth carried", gate(bench, 5), "2+1");
    }

    /** "It fills by each, and as it is full, it tips and is empty." */
    private static void everyGate() {
        for (int every = 1; every <= 100; every++) {
            IsochroneBench bench = running(1, 0, 300);
            bench.gateAt(0, every);
            if (every > 1) {
                bench.pass(every - 1);
                CHECK.due("all but one in a gate for " + every, gate(bench, 0), "0+" + (every - 1));
            }
            bench.pass(1);
            CHECK.due("full, a gate for " + every, gate(bench, 0), "1+0");
            bench.pass(1);
            CHECK.due("and one more", gate(bench, 0), every == 1 ? "2+0" : "1+1");
        }
    }

    /** "As often as that comes": in one second too, and through gates behind. */
    private static void tipsThatCarry() {
        int[][] due = {{49, 7, 0}, {48, 6, 6}, {50, 7, 1}, {6, 0, 6}, {7, 1, 0}, {1, 0, 1}};
        for (int[] d : due) {
            IsochroneBench bench = running(d[0], 0, 999);
            bench.gateAt(0, 7);
            bench.gateBehind(0, 7);
            bench.pass(1);
            CHECK.due(d[0] + " in a gate for 7", gate(bench, 0), d[1] + "+" + d[2]);
            CHECK.due("its tips in a gate for 7", gate(bench, 1), d[1] / 7 + "+" + d[1] % 7);
        }
        IsochroneBench chain = running(50, 0, 999);
        chain.gateAt(0, 1);
        for (int i = 0; i < 5; i++) {
            chain.gateBehind(i, 2);
        }
        chain.pass(1);
        CHECK.due("50 by halves", gate(chain, 0) + " " + gate(chain, 1) + " " + gate(chain, 2) + " " + gate(chain, 3)
                + " " + gate(chain, 4) + " " + gate(chain, 5), "50+0 25+0 12+1 6+0 3+0 1+1");
    }

    /** pass: 1 to 600, and not above 19999. */
    private static void secondsThatPass() {
        IsochroneBench bench = new IsochroneBench();
        CHECK.due("pass 0", Check.thrownBy(bench, b -> b.pass(0)), "IllegalArgumentException");
        CHECK.due("pass 601", Check.thrownBy(bench, b -> b.pass(601)), "IllegalArgumentException");
        CHECK.due("pass 1", bench.pass(1), 1);
        for (int i = 1; i <= 33; i++) {
            CHECK.due("pass 600", bench.pass(600), 1 + 600 * i);
        }
        CHECK.due("pass to 20000", Check.thrownBy(bench, b -> b.pass(199)), "IllegalStateException");
        CHECK.due("pass to 19998", bench.pass(197), 19998);
        CHECK.due("pass 2 to 20000", Check.thrownBy(bench, b -> b.pass(2)), "IllegalStateException");
        CHECK.due("pass 600 behind the last", Check.thrownBy(bench, b -> b.pass(600)), "IllegalStateException");
        CHECK.due("pass 1 to 19999", bench.pass(1), 19999);
        CHECK.due("pass 1 to 20000", Check.thrownBy(bench, b -> b.pass(1)), "IllegalStateException");
        CHECK.due("the last second", bench.time() + " " + bench.wrongBy(), "19999 -19999");
    }

    /** "Has nothing above any more, behind a second in which something fell"; "never turned has none". */
    private static void whatIsARun() {
        IsochroneBench never = running(1, 0, 1);
        never.pass(1);
        CHECK.due("never turned", never.state(0) + " " + never.runs(0), "e 0");
        never.turn(0);
        never.pass(1);
        CHECK.due("one grain is left", never.above(0) + " " + never.runs(0), "1 0");
        never.pass(1);
        CHECK.due("run out", never.above(0) + " " + runsOf(never, 0), "0 2");
        never.pass(600);
        CHECK.due("nothing fell since", runsOf(never, 0), "2");
        never.pour(0, 1);
        never.pass(1);
        CHECK.due("one more, from that turn on", runsOf(never, 0), "2 603");
        IsochroneBench emptied = running(1, 0, 5);
        emptied.turn(0);
        emptied.pass(1);
        emptied.turn(0);
        emptied.turn(0);
        CHECK.due("a turn back to nothing", emptied.above(0), 0);
        emptied.pass(1);
        CHECK.due("nothing fell", runsOf(emptied, 0), "1");
        IsochroneBench late = running(1, 0, 1);
        late.pass(600);
        late.turn(0);
        late.pass(2);
        CHECK.due("from the turn on, not from the start", runsOf(late, 0), "2");
    }

    /** "The last 10 runs of a glass are kept." */
    private static void tenRuns() {
        IsochroneBench bench = new IsochroneBench();
        bench.addGlass(1, 1, 1, 0);
        bench.turn(0);
        CHECK.due("no run yet", bench.runs(0) + " " + Check.thrownBy(bench, b -> b.runAt(0, 0)),
                "0 NoSuchElementException");
        for (int i = 1; i <= 25; i++) {
            bench.pass(i);
            int kept = Math.min(i, 10);
            int last = i * (i + 1) / 2;
            int first = (i - kept + 1) * (i - kept + 2) / 2;
            CHECK.due("kept of " + i, bench.runs(0), kept);
            CHECK.due("the last of " + i, bench.runAt(0, kept - 1), last - i + 1);
            CHECK.due("the first of " + i, bench.runAt(0, 0), first - (i - kept));
            CHECK.due("none behind the last of " + i, Check.thrownBy(bench, b -> b.runAt(0, kept)),
                    "NoSuchElementException");
            bench.pour(0, 1);
        }
    }

    /** "If it has 2 or more", "of those kept". */
    private static void steadier() {
        IsochroneBench bench = new IsochroneBench();
        bench.addGlass(1, 50, 50, 0);
        bench.addGlass(1, 1, 1, 0);
        CHECK.due("without runs", Check.thrownBy(bench, b -> b.steadiest()), "NoSuchElementException");
        bench.turn(1);
        bench.pass(1);
        CHECK.due("with one run", Check.thrownBy(bench, b -> b.steadiest()), "NoSuchElementException");
        CHECK.due("spread of one", Check.thrownBy(bench, b -> b.spread(1)), "NoSuchElementException");
        CHECK.due("mean of one", bench.meanRun(1), 1.0);
        bench.pass(98);
        bench.pour(1, 1);
        bench.pass(1);
        CHECK.due("with two runs", bench.steadiest() + " " + bench.spread(1) + " " + bench.meanRun(1), "1 99 50.5");
        bench.turn(0);
        for (int i = 0; i < 11; i++) {
            bench.pass(1);
            bench.pour(0, 1);
            bench.pour(1, 1);
        }
        CHECK.due("0 has ten from 2 to 11", bench.spread(0), 9);
        CHECK.due("1 has ten from 102 to 111, like ones", bench.spread(1) + " " + bench.steadiest(), "9 0");
        bench.pass(1);
        bench.turn(0);
        bench.pass(1);
        CHECK.due("0 has a short one too", bench.spread(0) + " " + bench.steadiest(), "11 1");
    }

    /** knots: 0 to 99, cut. */
    private static void knots() {
        for (int[] due : new int[][] {{0, 0}, {1, 93}, {2, 186}, {3, 280}, {99, 9240}}) {
            IsochroneBench bench = new IsochroneBench();
            bench.addGlass(3, 1, 1, 0);
            bench.turn(0);
            bench.pass(3);
            CHECK.due("knots " + due[0], bench.knots(0, due[0]), due[1]);
        }
        IsochroneBench slow = new IsochroneBench();
        slow.addGlass(281, 1, 1, 0);
        slow.turn(0);
        slow.pass(281);
        CHECK.due("less than a tenth", slow.knots(0, 1) + " " + slow.knots(0, 2), "0 1");
    }
}
