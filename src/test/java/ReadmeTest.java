import java.lang.reflect.Method;
import java.nio.file.Files;
import java.nio.file.Path;
import java.util.Map;
import java.util.Set;
import java.util.TreeSet;
import java.util.regex.Matcher;
import java.util.regex.Pattern;

/** README.md says how to use the class: each of its calls, in their order, answers what stands behind it. */
public final class ReadmeTest {
    private static final Pattern CALL = Pattern.compile(
        "    (Double\\.longBitsToDouble\\()?hall\\.(\\w+)\\(([^)]*)\\)\\)?;   // ([^:]+): .+");
    private static final Map<String, Long> CONSTANTS = Map.of(
        "RenewalClocks.INVALID_ARGUMENT", (long) RenewalClocks.INVALID_ARGUMENT,
        "RenewalClocks.NOT_POSSIBLE", (long) RenewalClocks.NOT_POSSIBLE,
        "RenewalClocks.LIMIT_REACHED", (long) RenewalClocks.LIMIT_REACHED,
        "RenewalClocks.NOT_FOUND", (long) RenewalClocks.NOT_FOUND);

    private static final RenewalClocks hall = new RenewalClocks();
    private static final Set<String> called = new TreeSet<>();

    public static void main(String[] args) throws Exception {
        for (String line : Files.readAllLines(Path.of("README.md"))) {
            if (!line.startsWith("    ") || !line.contains("hall.")) {
                continue;
            }
            Matcher call = CALL.matcher(line);
            Check.dueTrue("not read: " + line, call.matches());
            if (call.matches()) {
                hold(line, call);
            }
        }
        Check.dueText("the calls of README.md", called.toString(),
            "[clearText, clock, clockOf, count, fault, group, groupOf, join, leave, longer, mean, meets, next, passenger, "
                + "play, tick, type, undo, wind, would]");
        Check.end();
    }

    private static void hold(String line, Matcher call) throws Exception {
        long answer = answerOf(call.group(2), call.group(3));
        String due = call.group(4);
        if (call.group(1) != null) {
            Check.dueDouble(line, answer, Double.parseDouble(due));
        } else {
            Check.due(line, answer, CONSTANTS.containsKey(due) ? CONSTANTS.get(due) : Long.parseLong(due));
        }
    }

    private static long answerOf(String name, String arguments) throws Exception {
        called.add(name);
        String[] words = arguments.isEmpty() ? new String[0] : arguments.split(", ");
        Class<?>[] types = new Class<?>[words.length];
        Object[] values = new Object[words.length];
        for (int i = 0; i < words.length; i++) {
            types[i] = int.class;
            values[i] = words[i].startsWith("'") ? words[i].charAt(1) : Integer.parseInt(words[i]);
        }
        Method method = RenewalClocks.class.getMethod(name, types);
        return ((Number) method.invoke(hall, values)).longValue();
    }
}
