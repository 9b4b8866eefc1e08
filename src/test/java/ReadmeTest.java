import java.io.IOException;
import java.lang.reflect.Method;
import java.lang.reflect.Modifier;
import java.nio.file.Files;
import java.nio.file.Path;
import java.util.ArrayList;
import java.util.HashSet;
import java.util.List;
import java.util.Set;
import java.util.regex.Matcher;
import java.util.regex.Pattern;

/** README.md tells each call and shows each, and what it shows is what the class answers. */
public final class ReadmeTest {
    private static final Pattern BEGIN = Pattern.compile("FontRuns x = new FontRuns\\(\\);");
    private static final Pattern TEXT = Pattern.compile("String text = \"([^\"]*)\";.*");
    private static final Pattern CALL = Pattern.compile("x\\.(\\w+)\\((.*)\\);\\s*// (LOST|-?\\d+)(:.*)?");
    private static final Pattern TOLD = Pattern.compile("\\| `(\\w+)\\(([^)]*)\\)` \\|[^|]+\\|[^|]*\\|");
    private static final String PUTS = "for (int i = 0; i < text.length(); i++) x.put(0, i, text.charAt(i));";

    private static final Due due = new Due();
    private static final Set<String> shown = new HashSet<>();
    private static FontRuns x;
    private static String text = "";

    public static void main(String[] args) throws IOException, ReflectiveOperationException {
        List<String> lines = Files.readAllLines(Path.of("README.md"));
        due.begin("README.md");
        for (String line : examples(lines)) {
            show(line);
        }
        Set<String> told = told(lines);
        for (Method m : FontRuns.class.getDeclaredMethods()) {
            if (Modifier.isPublic(m.getModifiers())) {
                String call = m.getName() + " of " + m.getParameterCount();
                due.is("lines that tell " + call, told.contains(call) ? 1 : 0, 1);
                due.is("examples of " + call, shown.contains(m.getName()) ? 1 : 0, 1);
            }
        }
        due.is("calls that are told", told.size(), 32);
        answersAreTold(String.join("\n", lines));
        due.end();
    }

    private static List<String> examples(List<String> lines) {
        List<String> found = new ArrayList<>();
        boolean inside = false;
        for (String line : lines) {
            if (line.startsWith("```")) {
                inside = line.equals("```java");
            } else if (inside && !line.isBlank()) {
                found.add(line.strip());
            }
        }
        return found;
    }

    private static void show(String line) throws ReflectiveOperationException {
        Matcher string = TEXT.matcher(line);
        Matcher call = CALL.matcher(line);
        if (BEGIN.matcher(line).matches()) {
            x = new FontRuns();
        } else if (string.matches()) {
            text = string.group(1);
        } else if (line.equals(PUTS)) {
            for (int i = 0; i < text.length(); i++) {
                x.put(0, i, text.charAt(i));
            }
        } else if (call.matches()) {
            shown.add(call.group(1));
            long want = call.group(3).equals("LOST") ? FontRuns.LOST : Long.parseLong(call.group(3));
            due.is(line, answer(call.group(1), call.group(2)), want);
        } else {
            due.same("an example that can be run", line, "");
        }
    }

    private static long answer(String name, String told) throws ReflectiveOperationException {
        String[] parts = told.isEmpty() ? new String[0] : told.split(", ");
        Object[] numbers = new Object[parts.length];
        for (int k = 0; k < parts.length; k++) {
            numbers[k] = parts[k].equals("text.length()") ? text.length() : Integer.parseInt(parts[k]);
        }
        for (Method m : FontRuns.class.getDeclaredMethods()) {
            if (Modifier.isPublic(m.getModifiers()) && m.getName().equals(name)) {
                return ((Number) m.invoke(x, numbers)).longValue();
            }
        }
        throw new NoSuchMethodException(name);
    }

    private static Set<String> told(List<String> lines) {
        Set<String> found = new HashSet<>();
        for (String line : lines) {
            Matcher m = TOLD.matcher(line);
            if (m.matches()) {
                int count = m.group(2).isEmpty() ? 0 : m.group(2).split(", ").length;
                found.add(m.group(1) + " of " + count);
            }
        }
        return found;
    }

    private static void answersAreTold(String page) {
        String[] all = {"`UNKNOWN`, " + FontRuns.UNKNOWN, "`OUTSIDE`, " + FontRuns.OUTSIDE, "`STATE`, " + FontRuns.STATE,
            "`FULL`, " + FontRuns.FULL, "`NONE`, " + FontRuns.NONE, "`LOST` is `Long.MIN_VALUE`", "| -11 |", "| -12 |",
            "| -13 |", "| -14 |", "-100 less", "\n## A new object\n", "    .ci/run\n"};
        for (String one : all) {
            due.is("what is told: " + one, page.contains(one) ? 1 : 0, 1);
        }
    }
}
