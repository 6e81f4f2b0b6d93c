import java.lang.reflect.Constructor;
import java.lang.reflect.Field;
import java.lang.reflect.Method;
import java.lang.reflect.Modifier;
import java.util.ArrayList;
import java.util.Arrays;
import java.util.List;
import java.util.TreeSet;
import java.util.stream.Collectors;

/** The face of the class is the document's, no more and no less. */
public final class FaceTest {
    private static final String[] FACE = {
        "int addGlass(int,int,int,int) IllegalArgumentException,IllegalStateException",
        "int above(int) IndexOutOfBoundsException",
        "int below(int) IndexOutOfBoundsException",
        "char state(int) IndexOutOfBoundsException",
        "int turn(int) IndexOutOfBoundsException",
        "int timesTurned(int) IndexOutOfBoundsException",
        "char stand(int,char) IndexOutOfBoundsException,IllegalArgumentException",
        "int setJam(int,int) IndexOutOfBoundsException,IllegalArgumentException",
        "boolean tap(int) IndexOutOfBoundsException",
        "int pour(int,int) IndexOutOfBoundsException,IllegalArgumentException,IllegalStateException",
        "int falls(int) IndexOutOfBoundsException",
        "int runTime(int) IndexOutOfBoundsException,UnsupportedOperationException",
        "int feed(int,int) IndexOutOfBoundsException,UnsupportedOperationException",
        "int grains() ",
        "int pass(int) IllegalArgumentException,IllegalStateException",
        "int time() ",
        "int seed(int) IllegalArgumentException",
        "int gateAt(int,int) IndexOutOfBoundsException,IllegalArgumentException,IllegalStateException",
        "int gateBehind(int,int) IndexOutOfBoundsException,IllegalArgumentException,IllegalStateException",
        "int tips(int) IndexOutOfBoundsException",
        "int filled(int) IndexOutOfBoundsException",
        "int runs(int) IndexOutOfBoundsException",
        "int runAt(int,int) IndexOutOfBoundsException,NoSuchElementException",
        "double meanRun(int) IndexOutOfBoundsException,NoSuchElementException",
        "int spread(int) IndexOutOfBoundsException,NoSuchElementException",
        "int steadiest() NoSuchElementException",
        "int knots(int,int) IndexOutOfBoundsException,IllegalArgumentException,NoSuchElementException",
        "int tell(int) IllegalArgumentException,IllegalStateException",
        "int forget() ",
        "boolean canMeasure(int) IllegalArgumentException",
        "int fewestTurns(int) IllegalArgumentException,NoSuchElementException",
        "int decisions(int) IllegalArgumentException,NoSuchElementException",
        "int turnedAt(int,int) IllegalArgumentException,NoSuchElementException",
        "int minuteAt(int,int) IllegalArgumentException,NoSuchElementException",
        "int measurable(int) IllegalArgumentException",
        "boolean canStretch(int) IllegalArgumentException",
        "int divisor() ",
        "int setShip(int) IndexOutOfBoundsException",
        "int boy() UnsupportedOperationException",
        "int noon() ",
        "int bells() ",
        "int watch() ",
        "int wrongBy() ",
        "long checksum() ",
        "float aboveShare() NoSuchElementException",
        "boolean isSound() ",
    };

    public static void main(String[] args) {
        Check check = new Check("FaceTest");
        Class<?> bench = IsochroneBench.class;
        check.due("the class's modifiers", bench.getModifiers(), Modifier.PUBLIC | Modifier.FINAL);
        Constructor<?>[] constructors = bench.getDeclaredConstructors();
        check.due("the number of constructors", constructors.length, 1);
        check.due("the constructor's modifiers", constructors[0].getModifiers(), Modifier.PUBLIC);
        check.due("the constructor's parameters", constructors[0].getParameterCount(), 0);
        check.due("the methods", openMethods(bench), new TreeSet<>(Arrays.asList(FACE)));
        check.due("open fields, or static ones that can change", loose(bench), List.of());
        check.due("private methods that bear a public name", doubledNames(bench), List.of());
        check.due("open or inner classes", openClasses(bench), List.of());
        check.end();
    }

    private static TreeSet<String> openMethods(Class<?> bench) {
        TreeSet<String> found = new TreeSet<>();
        for (Method m : bench.getDeclaredMethods()) {
            if (!Modifier.isPrivate(m.getModifiers())) {
                String shape = m.getReturnType().getSimpleName() + " " + m.getName() + "("
                        + names(m.getParameterTypes()) + ") " + names(m.getExceptionTypes());
                boolean plain = m.getModifiers() == Modifier.PUBLIC;
                found.add(plain ? shape : Modifier.toString(m.getModifiers()) + " " + shape);
            }
        }
        return found;
    }

    private static String names(Class<?>[] types) {
        return Arrays.stream(types).map(Class::getSimpleName).collect(Collectors.joining(","));
    }

    private static List<String> loose(Class<?> bench) {
        List<String> found = new ArrayList<>();
        for (Field f : bench.getDeclaredFields()) {
            int m = f.getModifiers();
            if (!Modifier.isPrivate(m) || Modifier.isStatic(m) && !Modifier.isFinal(m)) {
                found.add(f.getName());
            }
        }
        return found;
    }

    private static List<String> doubledNames(Class<?> bench) {
        TreeSet<String> open = new TreeSet<>();
        for (Method m : bench.getDeclaredMethods()) {
            if (Modifier.isPublic(m.getModifiers())) {
                open.add(m.getName());
            }
        }
        List<String> found = new ArrayList<>();
        for (Method m : bench.getDeclaredMethods()) {
            if (!Modifier.isPublic(m.getModifiers()) && open.contains(m.getName())) {
                found.add(m.getName());
            }
        }
        for (Class<?> inside : bench.getDeclaredClasses()) {
            for (Method m : inside.getDeclaredMethods()) {
                if (open.contains(m.getName())) {
                    found.add(inside.getSimpleName() + "." + m.getName());
                }
            }
        }
        return found;
    }

    private static List<String> openClasses(Class<?> bench) {
        List<String> found = new ArrayList<>();
        for (Class<?> inside : bench.getDeclaredClasses()) {
            int m = inside.getModifiers();
            if (Modifier.isPublic(m) || Modifier.isProtected(m) || !Modifier.isStatic(m)) {
                found.add(inside.getSimpleName());
            }
        }
        return found;
    }
}
