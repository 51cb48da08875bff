import java.io.IOException;
import java.lang.reflect.InvocationTargetException;
import java.lang.reflect.Method;
import java.nio.file.Files;
import java.nio.file.Path;
import java.util.regex.Matcher;
import java.util.regex.Pattern;

/** The example in README.md: each call of it answers what is told behind it there. */
public final class ReadmeTest {
    private static final Pattern EXAMPLE = Pattern.compile("(?s)```java\n(.*?)```");
    private static final Pattern CALL = Pattern.compile("segments\\.(\\w+)\\((.*)\\); *// (-?\\d+): .*");

    public static void main(String[] args) throws IOException {
        Check check = new Check();
        Matcher example = EXAMPLE.matcher(Files.readString(Path.of("README.md")));
        if (!example.find()) {
            throw new IllegalStateException("README.md has no example");
        }
        String[] lines = example.group(1).split("\n");
        check.due("first line", lines[0], "TrainedSegments segments = new TrainedSegments();");
        TrainedSegments segments = new TrainedSegments();
        for (int i = 1; i < lines.length; i++) {
            Matcher call = CALL.matcher(lines[i]);
            check.due("is a call with its answer", call.matches() ? "" : lines[i], "");
            if (call.matches()) {
                String[] arguments = call.group(2).isEmpty() ? new String[0] : call.group(2).split(", ");
                check.due(lines[i], Check.told(() -> answer(segments, call.group(1), arguments)), call.group(3));
            }
        }
        check.end("ReadmeTest");
    }

    private static long answer(TrainedSegments segments, String name, String[] arguments) {
        for (Method m : TrainedSegments.class.getMethods()) {
            if (m.getName().equals(name) && m.getParameterCount() == arguments.length) {
                Object[] values = new Object[arguments.length];
                for (int i = 0; i < values.length; i++) {
                    long value = valueOf(arguments[i]);
                    values[i] = m.getParameterTypes()[i] == long.class ? (Object) value : (Object) (int) value;
                }
                return invoke(segments, m, values);
            }
        }
        throw new IllegalStateException("no such call: " + name);
    }

    private static long valueOf(String argument) {
        return argument.equals("TrainedSegments.NONE") ? TrainedSegments.NONE : Long.decode(argument.replace("L", ""));
    }

    private static long invoke(TrainedSegments segments, Method m, Object[] values) {
        try {
            return ((Number) m.invoke(segments, values)).longValue();
        } catch (IllegalAccessException | InvocationTargetException e) {
            throw new IllegalStateException(e);
        }
    }
}
