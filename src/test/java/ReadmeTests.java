import java.io.IOException;
import java.lang.reflect.Method;
import java.nio.file.Files;
import java.nio.file.Path;
import java.util.regex.Matcher;
import java.util.regex.Pattern;

/** Makes the calls that README.md shows, and compares each answer with the one that it tells. */
public final class ReadmeTests extends Due {
    private static final String NEW_OBJECT = "FoldWalks w = new FoldWalks();";
    private static final Pattern CALL = Pattern.compile("w\\.(\\w+)\\(([^()]*)\\); +// (-?\\d+)(\\D.*)?");

    private static FoldWalks w;
    private static int objects;
    private static int calls;

    public static void main(String[] args) throws IOException, ReflectiveOperationException {
        part = "README.md";
        boolean inJava = false;
        for (String line : Files.readAllLines(Path.of("README.md"))) {
            if (line.startsWith("```")) {
                inJava = line.equals("```java");
            } else if (inJava) {
                testLine(line);
            }
        }
        due("objects made by the examples", objects, 2);
        due("calls made by the examples", calls, 33);
        end("all calls of README.md answer what it tells");
    }

    private static void testLine(String line) throws ReflectiveOperationException {
        if (line.equals(NEW_OBJECT)) {
            w = new FoldWalks();
            objects++;
            return;
        }
        Matcher call = CALL.matcher(line);
        if (w == null || !call.matches()) {
            due("is a call with its answer: " + line, 0, 1);
            return;
        }
        calls++;
        due(line, answer(call.group(1), call.group(2)), Long.parseLong(call.group(3)));
    }

    private static long answer(String name, String arguments) throws ReflectiveOperationException {
        String[] parts = arguments.isEmpty() ? new String[0] : arguments.split(", ");
        Class<?>[] types = new Class<?>[parts.length];
        Object[] values = new Object[parts.length];
        for (int i = 0; i < parts.length; i++) {
            types[i] = int.class;
            values[i] = parts[i].startsWith("'") ? parts[i].charAt(1) : Integer.parseInt(parts[i]);
        }
        Method method = FoldWalks.class.getMethod(name, types);
        return ((Number) method.invoke(w, values)).longValue();
    }
}
