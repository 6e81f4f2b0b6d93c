import java.util.function.Consumer;
import java.util.function.Function;
import java.util.function.Supplier;

/** Counts the answers that are not as due, and ends the program with 1 if there were any. */
final class Check {
    private final String name;
    private int wrong;
    private int asked;

    Check(String name) {
        this.name = name;
    }

    void due(String what, Object got, Object want) {
        asked++;
        if (!got.equals(want)) {
            wrong++;
            System.out.println(name + ": " + what + " answered " + got + ", due is " + want);
        }
    }

    /** The call must throw exactly that, and leave a bench that answers all as one without the call. */
    void refused(String what, Supplier<IsochroneBench> maker, Function<IsochroneBench, Object> call,
            Class<? extends RuntimeException> want) {
        IsochroneBench tried = maker.get();
        due(what, thrownBy(tried, call), want.getSimpleName());
        due(what + ", and what stands then", Probe.tellAll(tried), Probe.tellAll(maker.get()));
    }

    /** The call must be refused for a number below, and for some from the count on. */
    void noGlass(String what, Supplier<IsochroneBench> maker, int count,
            Function<Integer, Consumer<IsochroneBench>> call) {
        for (int glass : new int[] {-1, count, Integer.MIN_VALUE, Integer.MAX_VALUE}) {
            refused(what + " of " + glass, maker, b -> {
                call.apply(glass).accept(b);
                return "nothing";
            }, IndexOutOfBoundsException.class);
        }
    }

    static String thrownBy(IsochroneBench bench, Function<IsochroneBench, Object> call) {
        try {
            return "answer " + call.apply(bench);
        } catch (RuntimeException e) {
            return nameOf(e);
        }
    }

    /** The exception's name, which is another one if the library threw it and not the class's own throw. */
    static String nameOf(RuntimeException e) {
        StackTraceElement[] trace = e.getStackTrace();
        boolean own = trace.length > 0 && trace[0].getClassName().startsWith("IsochroneBench");
        return own ? e.getClass().getSimpleName() : e.getClass().getSimpleName() + " of the library";
    }

    void end() {
        System.out.println(name + ": " + (asked - wrong) + " of " + asked + " answers as due");
        if (wrong != 0) {
            System.exit(1);
        }
    }
}
