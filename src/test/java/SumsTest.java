/** Promises 45 to 47. */
public final class SumsTest {
    private static final Check CHECK = new Check("SumsTest");

    public static void main(String[] args) throws ReflectiveOperationException {
        checksum();
        aboveShare();
        isSound();
        isNotSound();
        CHECK.end();
    }

    private static long sum(long... parts) {
        long sum = 7;
        for (long part : parts) {
            sum = sum * 31 + part;
        }
        return sum;
    }

    private static void checksum() {
        IsochroneBench bench = new IsochroneBench();
        CHECK.due("45: at first", bench.checksum(), sum(0, 1));
        bench.addGlass(20, 3, 5, 0);
        CHECK.due("45: a glass", bench.checksum(), sum(0, 20, 0, 0, 1));
        bench.addGlass(10, 1, 1, 0);
        bench.turn(0);
        bench.gateAt(0, 3);
        bench.gateBehind(0, 2);
        bench.pass(2);
        CHECK.due("45: glasses, then gates, then the second", bench.checksum(),
                sum(10, 10, 1, 0, 10, 0, 3, 1, 1, 1, 2, 1));
        bench.seed(2147483646);
        CHECK.due("45: and z", bench.checksum(), sum(10, 10, 1, 0, 10, 0, 3, 1, 1, 1, 2, 2147483646));
        for (int i = 0; i < 6; i++) {
            bench.addGlass(9999, 1, 1, 0);
        }
        CHECK.due("45: it wraps around", bench.checksum(), sum(10, 10, 1, 0, 10, 0, 0, 9999, 0, 0, 9999, 0, 0, 9999,
                0, 0, 9999, 0, 0, 9999, 0, 0, 9999, 0, 3, 1, 1, 1, 2, 2147483646));
    }

    private static void aboveShare() {
        IsochroneBench bench = new IsochroneBench();
        CHECK.refused("46: without glasses", IsochroneBench::new, b -> b.aboveShare(),
                java.util.NoSuchElementException.class);
        IsochroneBench least = new IsochroneBench();
        least.addGlass(1, 1, 1, 0);
        least.turn(0);
        CHECK.due("46: a single grain", least.aboveShare(), 1f);
        bench.addGlass(20, 3, 5, 0);
        CHECK.due("46: none above", bench.aboveShare(), 0f);
        bench.turn(0);
        CHECK.due("46: all above", bench.aboveShare(), 1f);
        bench.addGlass(10, 1, 1, 0);
        CHECK.due("46: two thirds", bench.aboveShare(), 20f / 30f);
        bench.pass(1);
        CHECK.due("46: half", bench.aboveShare(), 0.5f);
        bench.pour(1, 7);
        CHECK.due("46: with what was poured", bench.aboveShare(), 22f / 37f);
    }

    private static void isSound() {
        IsochroneBench bench = new IsochroneBench();
        CHECK.due("47: a new bench", bench.isSound(), true);
        bench.addGlass(20, 3, 5, 0);
        bench.addGlass(10, 1, 1, 0);
        bench.pour(1, 40);
        bench.feed(0, 1);
        bench.turn(0);
        bench.gateAt(1, 3);
        bench.pass(30);
        CHECK.due("47: after all that", bench.isSound(), true);
        bench.tell(12);
        bench.tell(8);
        CHECK.due("47: with a puzzle", bench.isSound(), true);
        bench.forget();
        CHECK.due("47: without one", bench.isSound(), true);
    }

    /** No call makes a bench unsound, so the test reaches into one and spoils it. */
    private static void isNotSound() throws ReflectiveOperationException {
        CHECK.due("47: nothing spoiled", spoilable().isSound(), true);
        CHECK.due("47: a grain more than told", spoiled("glasses", 1, "lower", 1).isSound(), false);
        CHECK.due("47: a grain less than told", spoiled("glasses", 0, "lower", -1).isSound(), false);
        for (int glass = 0; glass < 2; glass++) {
            for (String[] pair : new String[][] {{"upper", "lower"}, {"lower", "upper"}}) {
                IsochroneBench below0 = spoilable();
                int grains = below0.above(glass) + below0.below(glass);
                set(listed(below0, "glasses", glass), pair[0], 0);
                set(listed(below0, "glasses", glass), pair[1], grains);
                CHECK.due("47: " + pair[0] + " at 0 in " + glass, below0.isSound(), true);
                set(listed(below0, "glasses", glass), pair[0], -1);
                set(listed(below0, "glasses", glass), pair[1], grains + 1);
                CHECK.due("47: " + pair[0] + " below 0 in " + glass, below0.isSound(), false);
            }
        }
        for (int gate = 0; gate < 2; gate++) {
            CHECK.due("47: less than full, gate " + gate, spoiled("gates", gate, "content", 2).isSound(), true);
            CHECK.due("47: full, gate " + gate, spoiled("gates", gate, "content", 3).isSound(), false);
            CHECK.due("47: more than full, gate " + gate, spoiled("gates", gate, "content", 4).isSound(), false);
        }
        IsochroneBench mistold = spoilable();
        puzzleRow(mistold, "minutes")[0] = 8;
        CHECK.due("47: 12 is no multiple of 8", mistold.isSound(), false);
        for (int minute = 1; minute <= 40; minute++) {
            IsochroneBench measured = spoilable();
            int[] fewest = puzzleRow(measured, "fewest");
            fewest[minute * (fewest.length / 41)] = 1;
            CHECK.due("47: measured as if by one turn, " + minute, measured.canMeasure(minute), true);
            CHECK.due("47: a multiple of 12, " + minute, measured.isSound(), minute % 12 == 0);
        }
    }

    private static int[] puzzleRow(IsochroneBench bench, String row) throws ReflectiveOperationException {
        return (int[]) value(value(value(bench, "puzzle"), row), "cells");
    }

    private static IsochroneBench spoilable() {
        IsochroneBench bench = new IsochroneBench();
        bench.addGlass(20, 3, 5, 0);
        bench.addGlass(10, 1, 1, 0);
        bench.gateAt(0, 3);
        bench.gateAt(1, 3);
        bench.tell(12);
        return bench;
    }

    private static IsochroneBench spoiled(String list, int place, String field, int more)
            throws ReflectiveOperationException {
        IsochroneBench bench = spoilable();
        add(listed(bench, list, place), field, more);
        return bench;
    }

    private static Object listed(IsochroneBench bench, String list, int place) throws ReflectiveOperationException {
        return ((java.util.List<?>) value(bench, list)).get(place);
    }

    private static Object value(Object owner, String field) throws ReflectiveOperationException {
        java.lang.reflect.Field found = owner.getClass().getDeclaredField(field);
        found.setAccessible(true);
        return found.get(owner);
    }

    private static void add(Object owner, String field, int more) throws ReflectiveOperationException {
        set(owner, field, (int) value(owner, field) + more);
    }

    private static void set(Object owner, String field, int number) throws ReflectiveOperationException {
        java.lang.reflect.Field found = owner.getClass().getDeclaredField(field);
        found.setAccessible(true);
        found.setInt(owner, number);
    }
}
