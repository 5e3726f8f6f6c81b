import java.io.IOException;
import java.lang.reflect.Method;
import java.nio.file.Files;
import java.nio.file.Path;
import java.util.List;
import java.util.Set;
import java.util.TreeSet;
import java.util.regex.Matcher;
import java.util.regex.Pattern;

/** The run of calls in README.md answers what the comments beside the calls say, and leaves no call out. */
public final class ReadmeTest {
    private static final Pattern CALL = Pattern.compile("x\\.(\\w+)\\((.*?)\\);\\s*(?://\\s*(-?\\d+)?.*)?");
    private static final Check CHECK = new Check();

    public static void main(String[] args) throws IOException, ReflectiveOperationException {
        SlippedStreams x = new SlippedStreams();
        Set<String> called = new TreeSet<>();
        for (String line : javaLines(Files.readAllLines(Path.of("README.md")))) {
            Matcher call = CALL.matcher(line.trim());
            if (call.matches()) {
                called.add(call.group(1));
                make(x, line.trim(), call);
            } else {
                boolean other = line.isBlank() || line.startsWith("//") || line.startsWith("SlippedStreams x =");
                CHECK.due("is read: " + line, other ? 1 : 0, 1);
            }
        }
        for (Method m : SlippedStreams.class.getDeclaredMethods()) {
            if (java.lang.reflect.Modifier.isPublic(m.getModifiers())) {
                CHECK.due("shows " + m.getName(), called.contains(m.getName()) ? 1 : 0, 1);
            }
        }
        CHECK.end();
    }

    private static List<String> javaLines(List<String> lines) {
        int first = lines.indexOf("```java") + 1;
        List<String> rest = lines.subList(first, lines.size());
        return rest.subList(0, rest.indexOf("```"));
    }

    private static void make(SlippedStreams x, String line, Matcher call) throws ReflectiveOperationException {
        Method method = named(call.group(1));
        Class<?>[] types = method.getParameterTypes();
        Object[] arguments = new Object[types.length];
        String[] texts = call.group(2).isEmpty() ? new String[0] : call.group(2).split(", ");
        CHECK.due("arguments: " + line, texts.length, types.length);
        for (int i = 0; i < types.length; i++) {
            arguments[i] = types[i] == boolean.class ? (Object) Boolean.valueOf(texts[i]) : Integer.valueOf(texts[i]);
        }
        Object answer = method.invoke(x, arguments);
        boolean told = call.group(3) != null;
        CHECK.due("tells an answer: " + line, told ? 1 : 0, answer == null ? 0 : 1);
        if (told && answer != null) {
            CHECK.due(line, (Integer) answer, Integer.parseInt(call.group(3)));
        }
    }

    private static Method named(String name) throws NoSuchMethodException {
        for (Method m : SlippedStreams.class.getMethods()) {
            if (m.getName().equals(name)) {
                return m;
            }
        }
        throw new NoSuchMethodException(name);
    }
}
