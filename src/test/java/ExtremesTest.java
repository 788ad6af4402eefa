import java.lang.reflect.InvocationTargetException;
import java.lang.reflect.Method;
import java.lang.reflect.Modifier;
import java.util.ArrayList;
import java.util.Arrays;
import java.util.List;

/**
 * Every method with every extreme number, on charts of several kinds: it throws the exceptions of its own face alone
 * (never one of the machine), and what throws, or answers FULL or WRONG, changes nothing.
 */
public final class ExtremesTest {
    private static final int[] NUMBERS = {Integer.MIN_VALUE, Integer.MIN_VALUE + 1, -145, -9, -1, 0, 1, 3, 4, 7, 8, 11,
        12, 15, 16, 31, 32, 63, 64, 143, 144, 500, 65536, Integer.MAX_VALUE - 1, Integer.MAX_VALUE};
    private static final long[] BYTES = {0L, 1L, -1L, Long.MIN_VALUE, Long.MAX_VALUE, 0x6300680061007200L};
    private static final List<String> ACTIONS = List.of("place", "lift", "arrange", "setRed", "addRiver", "dropRiver",
        "erode", "raise", "sail", "cut", "turnPage", "read");
    /** What changes more than the output and the input, or may. */
    private static final List<String> CHANGES = List.of("load", "undo", "restoreSnapshot");

    public static void main(String[] args) {
        String full = Charts.allLand(12, 12) + ";harbour aa 0 0;harbour ab 0 11;harbour ac 11 0;harbour ad 11 11;"
            + "harbour ae 5 0;harbour af 0 5 red;harbour ag 11 6;harbour ah 6 11;place aa right;place ad up;"
            + "voyage" + " aa ah".repeat(8);
        String rivers = "chart 3 12;land 0 0 11;land 1 0 11;river 0 0;river 0 1;river 0 2;river 0 3;river 0 4;river 0 5;"
            + "river 0 6;river 0 7;harbour a 0 8 red;harbour b 1 11;place a down;voyage b a;turn 3";
        String[] texts = {"chart 3 3", "chart 12 12", full, rivers};
        for (String text : texts) {
            for (Method method : PortolanChart.class.getDeclaredMethods()) {
                if (Modifier.isPublic(method.getModifiers())) {
                    all(text, method);
                }
            }
        }
        Check.end();
    }

    private static void all(String text, Method method) {
        List<Object[]> calls = new ArrayList<>();
        calls.add(new Object[0]);
        for (Class<?> kind : method.getParameterTypes()) {
            List<Object[]> more = new ArrayList<>();
            for (Object[] call : calls) {
                for (Object value : values(kind)) {
                    Object[] longer = Arrays.copyOf(call, call.length + 1);
                    longer[call.length] = value;
                    more.add(longer);
                }
            }
            calls = more;
        }
        PortolanChart chart = null;
        for (Object[] call : calls) {
            if (chart == null) {
                chart = Charts.of(text);
                chart.turnPage(1);
                chart.writeRow(0);
            }
            String before = Charts.state(chart) + chart.size(11);
            String answer = answer(chart, method, call);
            boolean refused = answer.startsWith("throws.") || answer.equals("-2") || answer.equals("-3");
            boolean asks = !ACTIONS.contains(method.getName()) && !CHANGES.contains(method.getName());
            boolean same = before.equals(Charts.state(chart) + chart.size(11));
            Check.same(method.getName() + Arrays.toString(call) + " answered " + answer + " and changed the chart",
                true, same || !refused && !asks);
            chart = same ? chart : null;
        }
    }

    private static List<Object> values(Class<?> kind) {
        List<Object> values = new ArrayList<>();
        if (kind == boolean.class) {
            values.add(false);
            values.add(true);
        }
        for (int i = 0; i < BYTES.length && kind == long.class; i++) {
            values.add(BYTES[i]);
        }
        for (int i = 0; i < NUMBERS.length && kind == int.class; i++) {
            values.add(NUMBERS[i]);
        }
        return values;
    }

    private static String answer(PortolanChart chart, Method method, Object[] call) {
        try {
            return String.valueOf(method.invoke(chart, call));
        } catch (InvocationTargetException e) {
            Class<?> thrown = e.getCause().getClass();
            Check.same(method.getName() + Arrays.toString(call) + " threw " + thrown + " of its face", true,
                Arrays.asList(method.getExceptionTypes()).contains(thrown));
            return "throws." + thrown.getSimpleName();
        } catch (IllegalAccessException e) {
            return "no access";
        }
    }
}
