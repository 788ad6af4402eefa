import java.io.IOException;
import java.lang.reflect.InvocationTargetException;
import java.lang.reflect.Method;
import java.lang.reflect.Modifier;
import java.nio.file.Files;
import java.nio.file.Path;
import java.util.List;
import java.util.regex.Matcher;
import java.util.regex.Pattern;

/** What README.md says: its example answers as its comments tell, and each method and constant is named. */
public final class ReadmeTest {
    private static final Pattern CALL = Pattern.compile("chart\\.(\\w+)\\((.*?)\\); *// ((throws )?[-\\w]+).*");
    private static final int FEWEST_CALLS = 20;

    public static void main(String[] args) throws IOException {
        List<String> lines = Files.readAllLines(Path.of("README.md"));
        PortolanChart chart = Charts.of(block(lines, "chart 6 9; "));
        Check.same("the picture", block(lines, "....@....").strip().replace(' ', '/'), Charts.picture(chart));
        int calls = 0;
        for (String line : lines) {
            Matcher call = CALL.matcher(line);
            if (call.matches()) {
                calls++;
                Check.same("README: " + line, meaning(call.group(3)), answer(chart, call.group(1), call.group(2)));
            } else {
                Check.same("README has a comment that can be looked at: " + line, false, line.startsWith("chart."));
            }
        }
        Check.same("calls enough", true, calls >= FEWEST_CALLS);
        String all = String.join("\n", lines);
        for (Method method : PortolanChart.class.getDeclaredMethods()) {
            if (Modifier.isPublic(method.getModifiers())) {
                Check.same("README names " + method.getName(), true, all.matches("(?s).*\\b" + method.getName() + "\\b.*"));
            }
        }
        for (String row : new String[] {"| `NONE` | -1 |", "| `FULL` | -2 |", "| `WRONG` | -3 |", "    .ci/run\n"}) {
            Check.same("README has " + row, true, all.contains(row));
        }
        Check.end();
    }

    /** The lines from the one that begins so to the end of its block, as one line. */
    private static String block(List<String> lines, String beginning) {
        StringBuilder text = new StringBuilder();
        boolean inside = false;
        for (String line : lines) {
            inside = line.startsWith(beginning) && text.length() == 0 || inside && !line.startsWith("```");
            text.append(inside ? line + " " : "");
        }
        return text.toString();
    }

    private static String meaning(String told) {
        switch (told) {
            case "NONE": return "-1";
            case "FULL": return "-2";
            case "WRONG": return "-3";
            default: return told;
        }
    }

    private static String answer(PortolanChart chart, String name, String arguments) {
        String[] words = arguments.isEmpty() ? new String[0] : arguments.split(", ");
        for (Method method : PortolanChart.class.getDeclaredMethods()) {
            if (method.getName().equals(name) && method.getParameterTypes().length == words.length) {
                return answer(chart, method, words);
            }
        }
        return "no such method";
    }

    private static String answer(PortolanChart chart, Method method, String[] words) {
        Object[] values = new Object[words.length];
        for (int i = 0; i < words.length; i++) {
            boolean isNumber = method.getParameterTypes()[i] == int.class;
            values[i] = isNumber ? (Object) Integer.valueOf(words[i]) : (Object) Boolean.valueOf(words[i]);
        }
        try {
            return String.valueOf(method.invoke(chart, values));
        } catch (InvocationTargetException e) {
            return "throws " + e.getCause().getClass().getSimpleName();
        } catch (IllegalAccessException e) {
            return "no access";
        }
    }
}
