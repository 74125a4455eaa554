import java.io.File;
import java.io.IOException;
import java.lang.reflect.Field;
import java.lang.reflect.Method;
import java.lang.reflect.Modifier;
import java.nio.file.Files;
import java.nio.file.Path;
import java.util.ArrayList;
import java.util.List;
import java.util.Set;
import java.util.regex.Matcher;
import java.util.regex.Pattern;

/** The rules of LANGUAGE.md that the program's own words show; FaceTest has rule 1, ObjectsTest rule 12. */
public final class LanguageTest {
    private static final String MAIN = "src/main/java";
    private static final int MOST_LINES = 60;
    private static final int MOST_PARAMETERS = 7;
    private static final int MOST_CLASSES = 12;
    private static final int MOST_FIELDS = 20;
    // What the program uses of the list of rule 4: a new word here is to be looked up there first.
    private static final Set<String> LIBRARY = Set.of("Arrays.fill", "Math.max", "Math.min", "System.arraycopy");
    private static final String[] RULED_OUT = {
        "->", "::", "\\bthrow\\b", "\\btry\\b", "\\bfinally\\b", "\\bsynchronized\\b", "\\bassert\\b", "\\bpackage\\b",
        "\\bstatic\\s*\\{", "\\bprotected\\b", "\\bnative\\b", "\\bvolatile\\b", "\\bdouble\\b", "\\bfloat\\b",
        "\\bhashCode\\b", "\\bequals\\b", "\\btoString\\b", "\\bString\\b", "\\bvar\\b", "\\bwhile\\s*\\(true\\)"
    };
    private static final Check CHECK = new Check();

    public static void main(String[] args) throws IOException {
        String[] files = new File(MAIN).list();
        CHECK.due("files under " + MAIN, String.join(" ", files), "UnitLog.java");
        List<String> code = code(Files.readAllLines(Path.of(MAIN, "UnitLog.java")));
        words(code);
        library(String.join("\n", code));
        methodLines(code);
        List<Class<?>> classes = new ArrayList<>(List.of(UnitLog.class.getDeclaredClasses()));
        classes.add(UnitLog.class);
        CHECK.due("rule 11: classes", classes.size() <= MOST_CLASSES, true);
        for (Class<?> one : classes) {
            members(one);
        }
        CHECK.end();
    }

    /** The lines without their comments, so that a word there is none of the program's. */
    private static List<String> code(List<String> lines) {
        List<String> code = new ArrayList<>();
        boolean comment = false;
        for (String line : lines) {
            comment = comment || line.strip().startsWith("/*");
            code.add(comment ? "" : line.replaceFirst("//.*", ""));
            comment = comment && !line.contains("*/");
        }
        return code;
    }

    private static void words(List<String> code) {
        for (int n = 0; n < code.size(); n++) {
            for (String word : RULED_OUT) {
                CHECK.due("line " + (n + 1) + " has " + word, Pattern.compile(word).matcher(code.get(n)).find(), false);
            }
        }
    }

    /** Names with a great letter that aren't the program's own are the library's. */
    private static void library(String code) {
        Matcher imports = Pattern.compile("import ([^;]+);").matcher(code);
        while (imports.find()) {
            CHECK.due("rule 4: import", imports.group(1), "java.util.Arrays");
        }
        Matcher calls = Pattern.compile("\\b([A-Z]\\w*[a-z]\\w*\\.\\w+)\\(").matcher(code);
        while (calls.find()) {
            CHECK.due("rule 4: " + calls.group(1), LIBRARY.contains(calls.group(1)), true);
        }
    }

    /** A member's lines: from a line that opens a brace behind a bracket to the brace under its first letter. */
    private static void methodLines(List<String> code) {
        int methods = 0;
        for (int n = 0; n < code.size(); n++) {
            String line = code.get(n);
            if (!line.matches("( {4}| {8})[\\w\\[\\]]+( [\\w\\[\\]]+)* ?\\w*\\(.*\\) \\{") || line.matches(" +(if|for|while|switch) .*")) {
                continue;
            }
            String end = line.substring(0, line.indexOf(line.strip())) + "}";
            int length = code.subList(n, code.size()).indexOf(end) + 1;
            CHECK.due("rule 11: lines of" + line, length > 1 && length <= MOST_LINES, true);
            methods++;
        }
        CHECK.due("methods were found", methods > UnitLog.class.getDeclaredMethods().length, true);
    }

    private static void members(Class<?> one) {
        int fields = 0;
        for (Field field : one.getDeclaredFields()) {
            boolean fixed = Modifier.isStatic(field.getModifiers());
            fields += fixed ? 0 : 1;
            CHECK.due("rule 5: " + field, !fixed || Modifier.isFinal(field.getModifiers()) && field.getType() == int.class, true);
        }
        CHECK.due("rule 11: fields of " + one.getSimpleName(), fields <= MOST_FIELDS, true);
        for (Method method : one.getDeclaredMethods()) {
            CHECK.due("rule 11: parameters of " + method, method.getParameterCount() <= MOST_PARAMETERS, true);
        }
    }
}
