import java.io.IOException;
import java.lang.reflect.Method;
import java.lang.reflect.Modifier;
import java.nio.file.Files;
import java.nio.file.Path;
import java.util.ArrayList;
import java.util.List;
import java.util.regex.Matcher;
import java.util.regex.Pattern;

/** README.md: its runs of calls answer as they say, and each call of the face stands in its table. */
public final class ReadmeTest {
    private static final Check check = new Check();
    private static final Pattern MADE = Pattern.compile("BuildDisk disk = new BuildDisk\\((\\d+)\\);.*");
    private static final Pattern CALL = Pattern.compile("disk\\.(\\w+)\\((.*)\\); +// (-?\\d+|true|false|[a-z].*?)(:.*)?");

    public static void main(String[] args) throws IOException, ReflectiveOperationException {
        List<String> lines = Files.readAllLines(Path.of("README.md"));
        check.about("README.md");
        run(javaLines(lines));
        for (Method m : BuildDisk.class.getDeclaredMethods()) {
            if (Modifier.isPublic(m.getModifiers())) {
                String begin = "| `" + m.getName() + "(";
                check.due("has a line of " + m.getName(), lines.stream().filter(line -> line.startsWith(begin)).count(), 1);
            }
        }
        check.end();
    }

    private static List<String> javaLines(List<String> lines) {
        List<String> found = new ArrayList<>();
        boolean inside = false;
        for (String line : lines) {
            if (line.startsWith("```")) {
                inside = line.equals("```java");
            } else if (inside) {
                found.add(line);
            }
        }
        return found;
    }

    private static void run(List<String> lines) throws ReflectiveOperationException {
        BuildDisk disk = null;
        for (String line : lines) {
            Matcher made = MADE.matcher(line);
            Matcher call = CALL.matcher(line);
            if (made.matches()) {
                disk = new BuildDisk(Integer.parseInt(made.group(1)));
            } else if (call.matches() && disk != null) {
                call(disk, call.group(1), call.group(2), call.group(3));
            } else {
                check.due("a line that can be run: " + line, false, true);
            }
        }
    }

    private static void call(BuildDisk disk, String name, String args, String answer) throws ReflectiveOperationException {
        Method method = named(name);
        Object[] values = values(args, method.getParameterTypes());
        Object got = method.invoke(disk, values);
        if (got instanceof Boolean b) {
            check.due(name + "(" + args + ")", b, answer.equals("true"));
        } else if (got instanceof Number n) {
            check.due(name + "(" + args + ")", n.longValue(), Long.parseLong(answer));
        }
    }

    private static Method named(String name) throws ReflectiveOperationException {
        for (Method m : BuildDisk.class.getMethods()) {
            if (m.getName().equals(name)) {
                return m;
            }
        }
        throw new NoSuchMethodException(name);
    }

    private static Object[] values(String args, Class<?>[] types) {
        Object[] values = new Object[types.length];
        String[] texts = args.split(",");
        for (int i = 0; i < types.length; i++) {
            long value = 0;
            for (String part : texts[i].split("\\+")) {
                value += Long.parseLong(part.replace("L", "").trim());
            }
            if (types[i] == long.class) {
                values[i] = value;
            } else {
                values[i] = (int) value;
            }
        }
        return values;
    }
}
