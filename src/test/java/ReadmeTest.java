import java.io.IOException;
import java.lang.reflect.Method;
import java.nio.file.Files;
import java.nio.file.Path;
import java.util.ArrayList;
import java.util.List;
import java.util.regex.Matcher;
import java.util.regex.Pattern;

/** Makes the calls of README.md's example, and compares each answer with the one that stands behind it. */
public final class ReadmeTest {
    private static final Pattern CALL = Pattern.compile("bench\\.(\\w+)\\((.*)\\); +// ([^:]+):.*");
    private static final Check CHECK = new Check("ReadmeTest");

    public static void main(String[] args) throws IOException, ReflectiveOperationException {
        String text = Files.readString(Path.of("README.md"));
        IsochroneBench bench = new IsochroneBench();
        List<String> others = new ArrayList<>();
        for (String line : text.substring(text.indexOf("```java"), text.lastIndexOf("```")).split("\n")) {
            Matcher call = CALL.matcher(line);
            if (call.matches()) {
                CHECK.due(line, answer(bench, call.group(1), call.group(2)), call.group(3));
            } else if (!line.isEmpty()) {
                others.add(line);
            }
        }
        CHECK.due("lines without an answer", others,
                List.of("```java", "IsochroneBench bench = new IsochroneBench();"));
        for (Method method : IsochroneBench.class.getMethods()) {
            if (method.getDeclaringClass() == IsochroneBench.class) {
                CHECK.due(method.getName() + " is told of", text.contains("`" + method.getName() + "`"), true);
            }
        }
        CHECK.end();
    }

    private static String answer(IsochroneBench bench, String name, String numbers)
            throws ReflectiveOperationException {
        String[] parts = numbers.isEmpty() ? new String[0] : numbers.split(", ");
        Class<?>[] types = new Class<?>[parts.length];
        Object[] values = new Object[parts.length];
        for (int i = 0; i < parts.length; i++) {
            types[i] = int.class;
            values[i] = Integer.valueOf(parts[i]);
        }
        return String.valueOf(IsochroneBench.class.getMethod(name, types).invoke(bench, values));
    }
}
