import java.io.IOException;
import java.lang.reflect.Method;
import java.nio.file.Files;
import java.nio.file.Path;
import java.util.HashSet;
import java.util.Set;
import java.util.regex.Matcher;
import java.util.regex.Pattern;

/** The calls that README.md shows, in their order on one object: each answers the number that stands behind it. */
public final class WheelRideReadmeTest {
    private static final Check CHECK = new Check();
    private static final Pattern TEXT = Pattern.compile("for \\(char letter : \"([^\"]+)\"\\.toCharArray\\(\\)\\) \\{");
    private static final Pattern CALL = Pattern.compile("ride\\.(\\w+)\\(([-0-9, ]*)\\);\\s+// (-?\\d+).*");
    private static final Set<String> FRAME = Set.of("WheelRide ride = new WheelRide();", "ride.feed(letter);", "}", "");

    private final WheelRide ride = new WheelRide();
    private final Set<String> shown = new HashSet<>();

    public static void main(String[] args) throws IOException, ReflectiveOperationException {
        WheelRideReadmeTest test = new WheelRideReadmeTest();
        boolean inCode = false;
        for (String line : Files.readAllLines(Path.of(System.getProperty("wheelride.readme", "README.md")))) {
            if (line.startsWith("```")) {
                inCode = line.equals("```java");
            } else if (inCode) {
                test.look(line.trim());
            }
        }
        CHECK.holds("the page shows calls: " + test.shown, test.shown.size() > 30);
        CHECK.end();
    }

    private void look(String line) throws ReflectiveOperationException {
        Matcher text = TEXT.matcher(line);
        Matcher call = CALL.matcher(line);
        if (text.matches()) {
            Check.feed(ride, text.group(1));
        } else if (call.matches()) {
            CHECK.due(line, answer(call.group(1), call.group(2)), Long.parseLong(call.group(3)));
            shown.add(call.group(1));
        } else {
            CHECK.holds("a line of the page that no test reads: " + line, FRAME.contains(line));
        }
    }

    private long answer(String name, String numbers) throws ReflectiveOperationException {
        String[] parts = numbers.isEmpty() ? new String[0] : numbers.split(", ");
        Class<?>[] types = new Class<?>[parts.length];
        Object[] values = new Object[parts.length];
        for (int i = 0; i < parts.length; i++) {
            types[i] = int.class;
            values[i] = Integer.parseInt(parts[i]);
        }
        Method method = WheelRide.class.getMethod(name, types);
        return ((Number) method.invoke(ride, values)).longValue();
    }
}
