import java.io.IOException;
import java.lang.reflect.InvocationTargetException;
import java.lang.reflect.Method;
import java.lang.reflect.Modifier;
import java.nio.charset.StandardCharsets;
import java.nio.file.Files;
import java.nio.file.Path;
import java.util.ArrayList;
import java.util.HashMap;
import java.util.HashSet;
import java.util.List;
import java.util.Map;
import java.util.Set;
import java.util.regex.Matcher;
import java.util.regex.Pattern;

/**
 * Tests README.md, read from the directory in which the test is run: each call of its examples
 * gives the answer that stands behind it, and each call of the class is listed with what it throws.
 */
public final class TaperOfficeReadmeTest {
    private static final String NEW_OFFICE = "TaperOffice office = new TaperOffice();";
    /** An answer ends at a colon, behind which stands what it means. */
    private static final Pattern CALL = Pattern.compile(
            "(?:int (\\w+) = )?office\\.(\\w+)\\((.*)\\); +// ([^:]+)(?:: .+)?");
    private static final Pattern ENTRY = Pattern.compile("- `(\\w+) (\\w+)\\((.*?)\\)` .*");
    private static final Pattern EXCEPTION = Pattern.compile("\\w+Exception");

    private final List<String> lines;
    private final Map<String, Method> face = new HashMap<>();
    private final Set<String> shown = new HashSet<>();
    private final Map<String, Integer> variables = new HashMap<>();
    private TaperOffice office;
    private int answers = 0;
    private int wrong = 0;

    private TaperOfficeReadmeTest(List<String> lines) {
        this.lines = lines;
        for (Method method : TaperOffice.class.getDeclaredMethods()) {
            if (Modifier.isPublic(method.getModifiers())) {
                face.put(method.getName(), method);
            }
        }
    }

    public static void main(String[] args) throws IOException {
        Path readme = Path.of("README.md");
        TaperOfficeReadmeTest test = new TaperOfficeReadmeTest(
                Files.readAllLines(readme, StandardCharsets.UTF_8));
        test.examples();
        test.everyCallIsShown();
        test.entries();
        System.out.println(test.wrong == 0 ? "README.md shows " + test.answers + " answers, all due"
                : test.wrong + " are wrong in README.md");
        System.exit(test.wrong == 0 ? 0 : 1);
    }

    private void say(String where, String what) {
        wrong++;
        System.out.println("README.md: " + where + "\n    " + what);
    }

    private void due(String where, Object got, Object want) {
        if (!got.equals(want)) {
            say(where, "shown is " + got + ", due is " + want);
        }
    }

    // ---- the examples

    private void examples() {
        boolean inside = false;
        for (String line : lines) {
            if (line.startsWith("```")) {
                inside = !inside;
                if (inside) {
                    due(line, line, "```java");
                }
                office = null;
                variables.clear();
            } else if (inside) {
                example(line);
            }
        }
        due("the last example", inside ? "open" : "ended", "ended");
    }

    private void example(String line) {
        if (line.equals(NEW_OFFICE)) {
            office = new TaperOffice();
            return;
        }
        Matcher call = CALL.matcher(line);
        if (!call.matches()) {
            say(line, "this is no call with its answer");
            return;
        }
        Method method = face.get(call.group(2));
        if (office == null || method == null) {
            say(line, "there is no such object or call");
            return;
        }
        shown.add(call.group(2));
        answers++;
        Object answer = answerOf(method, argumentsOf(call.group(3)));
        due(line, call.group(4), answer.toString());
        if (call.group(1) != null && answer instanceof Integer) {
            variables.put(call.group(1), (Integer) answer);
        }
    }

    private Object answerOf(Method method, Object[] arguments) {
        try {
            return method.invoke(office, arguments);
        } catch (InvocationTargetException thrown) {
            return "throws " + thrown.getCause().getClass().getSimpleName();
        } catch (IllegalAccessException | IllegalArgumentException unfit) {
            return "no call with these arguments";
        }
    }

    private Object[] argumentsOf(String text) {
        List<Object> arguments = new ArrayList<>();
        for (String argument : text.isEmpty() ? new String[0] : text.split(", ")) {
            arguments.add(argumentOf(argument));
        }
        return arguments.toArray();
    }

    private Object argumentOf(String text) {
        if (text.equals("true") || text.equals("false")) {
            return Boolean.valueOf(text);
        }
        if (text.matches("-?\\d+")) {
            return Integer.valueOf(text);
        }
        if (text.startsWith("TaperOffice.")) {
            return constant(text.substring("TaperOffice.".length()));
        }
        return variables.get(text);
    }

    private static Object constant(String name) {
        try {
            return TaperOffice.class.getField(name).get(null);
        } catch (NoSuchFieldException | IllegalAccessException missing) {
            return null;
        }
    }

    private void everyCallIsShown() {
        due("the calls of the examples", shown, face.keySet());
    }

    // ---- the list of the calls

    private void entries() {
        Set<String> listed = new HashSet<>();
        for (int i = 0; i < lines.size(); i++) {
            Matcher entry = ENTRY.matcher(textFrom(i));
            if (entry.matches()) {
                listed.add(entry.group(2));
                entry(entry);
            }
        }
        due("the list of the calls", listed, face.keySet());
    }

    /** The line and those that go on with it, as one. */
    private String textFrom(int first) {
        StringBuilder text = new StringBuilder(lines.get(first));
        for (int i = first + 1; i < lines.size() && lines.get(i).startsWith("  "); i++) {
            text.append(' ').append(lines.get(i).trim());
        }
        return text.toString();
    }

    private void entry(Matcher entry) {
        Method method = face.get(entry.group(2));
        if (method == null) {
            say(entry.group(), "there is no such call");
            return;
        }
        due(entry.group(), entry.group(1), method.getReturnType().getName());
        due(entry.group(), typesOf(entry.group(3)), namesOf(method.getParameterTypes()));
        List<String> exceptions = new ArrayList<>();
        Matcher exception = EXCEPTION.matcher(entry.group());
        while (exception.find()) {
            if (!exceptions.contains(exception.group())) {
                exceptions.add(exception.group());
            }
        }
        due(entry.group(), exceptions, namesOf(method.getExceptionTypes()));
    }

    private static List<String> typesOf(String parameters) {
        List<String> types = new ArrayList<>();
        for (String parameter : parameters.isEmpty() ? new String[0] : parameters.split(", ")) {
            types.add(parameter.split(" ")[0]);
        }
        return types;
    }

    private static List<String> namesOf(Class<?>[] classes) {
        List<String> names = new ArrayList<>();
        for (Class<?> type : classes) {
            names.add(type.getSimpleName());
        }
        return names;
    }
}
