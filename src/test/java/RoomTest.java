import com.sun.management.ThreadMXBean;
import java.lang.management.ManagementFactory;

/** All calls of a run live in one room: the rows are made with the object, and later calls make next to nothing. */
public final class RoomTest {
    private static final long MOST_AT_FIRST = 200_000;
    private static final long MOST_LATER = 20_000;
    private static final ThreadMXBean THREADS = (ThreadMXBean) ManagementFactory.getThreadMXBean();
    private static final Check CHECK = new Check("RoomTest");

    public static void main(String[] args) {
        useAll(new IsochroneBench());
        long start = made();
        IsochroneBench bench = new IsochroneBench();
        long atFirst = made() - start;
        start = made();
        int calls = useAll(bench);
        long later = made() - start;
        CHECK.due("an object makes " + atFirst + " bytes", atFirst <= MOST_AT_FIRST, true);
        CHECK.due(calls + " calls make " + later + " bytes", later <= MOST_LATER, true);
        CHECK.due("calls that were made", calls, 512);
        CHECK.end();
    }

    private static long made() {
        return THREADS.getThreadAllocatedBytes(Thread.currentThread().getId());
    }

    private static int useAll(IsochroneBench bench) {
        int calls = 0;
        for (int glass = 0; glass < 8; glass++) {
            bench.addGlass(1 + glass, 50, 50, 0);
            calls++;
        }
        bench.gateAt(0, 1);
        bench.setShip(7);
        calls += 2;
        for (int gate = 0; gate < 5; gate++) {
            bench.gateBehind(gate, 1);
            calls++;
        }
        for (int round = 0; calls + 26 <= 512; round++) {
            calls += puzzles(bench) + glasses(bench, round % 8);
        }
        while (calls < 512) {
            bench.isSound();
            calls++;
        }
        return calls;
    }

    private static int puzzles(IsochroneBench bench) {
        bench.tell(12);
        bench.tell(11);
        bench.tell(7);
        bench.canMeasure(40);
        bench.fewestTurns(40);
        bench.decisions(40);
        bench.turnedAt(40, 1);
        bench.minuteAt(40, 1);
        bench.measurable(40);
        bench.canStretch(1);
        bench.divisor();
        bench.forget();
        return 12;
    }

    private static int glasses(IsochroneBench bench, int glass) {
        bench.turn(glass);
        bench.setJam(glass, 1);
        bench.stand(glass, 't');
        bench.feed(glass, -1);
        bench.pass(9);
        bench.tap(glass);
        bench.runTime(glass);
        bench.runAt(glass, 0);
        bench.meanRun(glass);
        bench.knots(glass, 99);
        bench.boy();
        bench.checksum();
        bench.aboveShare();
        bench.isSound();
        return 14;
    }
}
