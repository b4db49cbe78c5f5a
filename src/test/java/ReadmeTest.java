import java.io.IOException;
import java.lang.reflect.Method;
import java.lang.reflect.Modifier;
import java.nio.file.Files;
import java.nio.file.Path;
import java.util.regex.Matcher;
import java.util.regex.Pattern;

/** README.md: each example answers what stands behind it, and every call of the face is named. */
public final class ReadmeTest {
    private static final Path README = Path.of("README.md");
    private static final Pattern EXAMPLE = Pattern.compile("(?s)```java\n(.*?)```");
    private static final Pattern CALL = Pattern.compile("x\\.(\\w+)\\(([^)]*)\\); *// (-?\\d+): .*");
    private static final String FRESH = "TortoiseShelves x = new TortoiseShelves();";

    private static final Due d = new Due();

    public static void main(String[] args) throws IOException, ReflectiveOperationException {
        String text = Files.readString(README);
        examples(text);
        names(text);
        d.due("README.md tells the command that runs the tests", text.contains("    .ci/run\n") ? 1 : 0, 1);
        d.end();
    }

    private static void examples(String text) throws ReflectiveOperationException {
        Matcher example = EXAMPLE.matcher(text);
        int seen = 0;
        while (example.find()) {
            seen++;
            String[] lines = example.group(1).split("\n");
            d.due(lines[0] + " makes a fresh object", lines[0].equals(FRESH) ? 1 : 0, 1);
            TortoiseShelves x = new TortoiseShelves();
            for (int i = 1; i < lines.length; i++) {
                call(x, lines[i]);
            }
        }
        d.due("examples", seen, 2);
    }

    private static void call(TortoiseShelves x, String line) throws ReflectiveOperationException {
        Matcher call = CALL.matcher(line);
        if (!call.matches()) {
            d.due(line + " is a call with its answer", 0, 1);
            return;
        }
        String[] told = call.group(2).isEmpty() ? new String[0] : call.group(2).split(", ");
        Method method = named(call.group(1));
        Class<?>[] types = method.getParameterTypes();
        Object[] values = new Object[told.length];
        for (int i = 0; i < told.length; i++) {
            values[i] = types[i] == long.class ? (Object) Long.decode(told[i]) : (Object) Integer.decode(told[i]);
        }
        d.due(line, ((Number) method.invoke(x, values)).longValue(), Long.parseLong(call.group(3)));
    }

    private static Method named(String name) throws NoSuchMethodException {
        for (Method m : TortoiseShelves.class.getDeclaredMethods()) {
            if (Modifier.isPublic(m.getModifiers()) && m.getName().equals(name)) {
                return m;
            }
        }
        throw new NoSuchMethodException(name);
    }

    private static void names(String text) {
        for (Method m : TortoiseShelves.class.getDeclaredMethods()) {
            if (Modifier.isPublic(m.getModifiers())) {
                d.due("README.md names " + m.getName(), text.contains("`" + m.getName() + "`") ? 1 : 0, 1);
            }
        }
    }
}
