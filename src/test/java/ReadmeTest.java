import java.io.IOException;
import java.lang.reflect.Method;
import java.lang.reflect.Modifier;
import java.nio.file.Files;
import java.nio.file.Path;
import java.util.List;
import java.util.regex.Matcher;
import java.util.regex.Pattern;

/** The example of README.md: each of its calls answers what its comment says before the colon. */
public final class ReadmeTest {
    private static final Pattern NEW = Pattern.compile("UnitLog log = new UnitLog\\((\\d+)\\);.*");
    private static final Pattern CALL = Pattern.compile("log\\.(\\w+)\\(([^)]*)\\);\\s*// (\\S+): .*");
    private static final Check CHECK = new Check();

    public static void main(String[] args) throws IOException, ReflectiveOperationException {
        List<String> lines = Files.readAllLines(Path.of("README.md"));
        int begin = lines.indexOf("```java") + 1;
        Matcher made = NEW.matcher(lines.get(begin));
        CHECK.due("the example begins with a new store", made.matches(), true);
        UnitLog log = new UnitLog(Integer.parseInt(made.group(1)));
        int line = begin + 1;
        for (; !lines.get(line).equals("```"); line++) {
            call(log, lines.get(line));
        }
        CHECK.due("the example has calls", line > begin + 1, true);
        for (Method m : UnitLog.class.getDeclaredMethods()) {
            CHECK.due("README.md tells of " + m.getName(), !isOpen(m) || told(lines, m.getName()), true);
        }
        CHECK.end();
    }

    private static boolean isOpen(Method m) {
        return Modifier.isPublic(m.getModifiers());
    }

    private static boolean told(List<String> lines, String name) {
        return lines.stream().anyMatch(line -> line.startsWith("| `") && line.contains("`" + name + "("));
    }

    private static void call(UnitLog log, String line) throws ReflectiveOperationException {
        Matcher call = CALL.matcher(line);
        if (!call.matches()) {
            CHECK.due("a call with its answer", line, "log.name(..); // answer: words");
            return;
        }
        String[] given = call.group(2).isEmpty() ? new String[0] : call.group(2).split(", ");
        Method method = method(call.group(1));
        Object[] arguments = new Object[given.length];
        for (int i = 0; i < given.length; i++) {
            arguments[i] = method.getParameterTypes()[i] == long.class ? half(given[i]) : (Object) Integer.valueOf(given[i]);
        }
        CHECK.due(line, method.invoke(log, arguments).toString(), answer(call.group(3)));
    }

    private static Method method(String name) throws ReflectiveOperationException {
        for (Method m : UnitLog.class.getDeclaredMethods()) {
            if (m.getName().equals(name)) {
                return m;
            }
        }
        throw new NoSuchMethodException(name);
    }

    private static long half(String literal) {
        return Long.decode(literal.substring(0, literal.length() - 1));
    }

    private static String answer(String word) throws ReflectiveOperationException {
        boolean constant = word.matches("[A-Z]+");
        return constant ? "" + UnitLog.class.getField(word).getInt(null) : word;
    }
}
