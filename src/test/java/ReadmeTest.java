import java.lang.reflect.Method;
import java.nio.charset.StandardCharsets;
import java.nio.file.Files;
import java.nio.file.Path;
import java.util.Arrays;
import java.util.HashMap;
import java.util.Map;
import java.util.regex.Matcher;
import java.util.regex.Pattern;

/** The examples of README.md (-Dreadme): each call answers the number that its comment begins with. */
public final class ReadmeTest {
    private static final Pattern BLOCK = Pattern.compile("(?s)```java\n(.*?)```");
    private static final Pattern CALL = Pattern.compile("(?:int (\\w+) = )?town\\.(\\w+)\\((.*?)\\);\\s*// (-?\\d+)(:.*)?");
    private static final String BEGIN = "RumourBeds town = new RumourBeds();";

    private static final Due due = new Due();

    public static void main(String[] args) throws Exception {
        String readme = Files.readString(Path.of(System.getProperty("readme")), StandardCharsets.UTF_8);
        Matcher block = BLOCK.matcher(readme);
        int blocks = 0;
        while (block.find()) {
            runExample(block.group(1).split("\n"));
            blocks++;
        }
        due.holds("there are examples", blocks > 0);
        due.end();
    }

    private static void runExample(String[] lines) throws Exception {
        due.holds("an example begins with " + BEGIN, lines[0].equals(BEGIN));
        RumourBeds town = new RumourBeds();
        Map<String, Long> named = new HashMap<>();
        for (String line : Arrays.asList(lines).subList(1, lines.length)) {
            Matcher call = CALL.matcher(line);
            if (!call.matches()) {
                due.holds("a call and its answer: " + line, false);
                continue;
            }
            long answer = answerOf(town, call.group(2), call.group(3), named);
            due.is(line, answer, Long.parseLong(call.group(4)));
            if (call.group(1) != null) {
                named.put(call.group(1), answer);
            }
        }
    }

    private static long answerOf(RumourBeds town, String name, String told, Map<String, Long> named) throws Exception {
        String[] arguments = told.isEmpty() ? new String[0] : told.split(", ");
        for (Method method : RumourBeds.class.getMethods()) {
            if (method.getName().equals(name) && method.getParameterCount() == arguments.length) {
                Object[] values = new Object[arguments.length];
                for (int i = 0; i < values.length; i++) {
                    Long v = named.containsKey(arguments[i]) ? named.get(arguments[i]) : Long.decode(arguments[i]);
                    values[i] = method.getParameterTypes()[i] == long.class ? (Object) v : (Object) v.intValue();
                }
                return ((Number) method.invoke(town, values)).longValue();
            }
        }
        due.holds("there is a call " + name + " of " + arguments.length, false);
        return 0;
    }
}
