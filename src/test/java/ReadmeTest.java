import java.lang.reflect.Method;
import java.nio.file.Files;
import java.nio.file.Path;
import java.util.regex.Matcher;
import java.util.regex.Pattern;

/** Does the lines of the example in README.md; each answer has to be the one that is said behind its "//". */
public final class ReadmeTest {
    private static final Pattern FED = Pattern.compile("feedText\\(x, \"([^\"]*)\"\\);");
    private static final Pattern ASKED = Pattern.compile("x\\.(\\w+)\\(([\\d, -]*)\\);\\s*// (-?\\d+)(:.*)?");

    public static void main(String[] args) throws Exception {
        FreshLines x = null;
        int told = 0;
        for (String line : Files.readAllLines(Path.of("README.md"))) {
            Matcher fed = FED.matcher(line);
            Matcher asked = ASKED.matcher(line);
            if (line.equals("FreshLines x = new FreshLines();")) {
                x = new FreshLines();
            } else if (fed.matches()) {
                Check.feed(x, fed.group(1));
            } else if (asked.matches()) {
                told++;
                Check.due(line, Long.parseLong(asked.group(3)), answer(x, asked.group(1), asked.group(2)));
            } else {
                Check.due("a line of the example is none such: " + line, false, line.startsWith("x.") || line.startsWith("feedText"));
            }
        }
        Check.due("the example asks", true, told > 10);
        Check.end("ReadmeTest");
    }

    private static long answer(FreshLines x, String name, String numbers) throws Exception {
        String[] parts = numbers.isEmpty() ? new String[0] : numbers.split(", ");
        for (Method m : FreshLines.class.getMethods()) {
            if (m.getName().equals(name) && m.getParameterCount() == parts.length) {
                Object[] given = new Object[parts.length];
                for (int i = 0; i < parts.length; i++) {
                    given[i] = m.getParameterTypes()[i] == long.class ? (Object) Long.parseLong(parts[i]) : (Object) Integer.parseInt(parts[i]);
                }
                return ((Number) m.invoke(x, given)).longValue();
            }
        }
        throw new AssertionError("no call " + name);
    }
}
