import java.io.IOException;
import java.lang.reflect.Method;
import java.nio.file.Files;
import java.nio.file.Path;
import java.util.regex.Matcher;
import java.util.regex.Pattern;

/** The calls in README.md, one behind the other on one object, answer what stands behind them there. */
public final class ReadmeTest {
    private static final Pattern CALL = Pattern.compile("x\\.(\\w+)\\(([-\\d, ]*)\\); +// (-?\\d+).*");
    private static final Pattern TEXT = Pattern.compile("for \\(char letter : \"(.*)\"\\.toCharArray\\(\\)\\) x\\.feed\\(letter\\);");

    public static void main(String[] args) throws IOException, ReflectiveOperationException {
        String readme = Files.readString(Path.of("README.md"));
        String code = readme.substring(readme.indexOf("```java\n") + 8);
        SeatedByDebts x = null;
        for (String line : code.substring(0, code.indexOf("```")).split("\n")) {
            Matcher call = CALL.matcher(line);
            Matcher text = TEXT.matcher(line);
            if (line.isEmpty() || line.startsWith("//")) continue;
            if (line.equals("SeatedByDebts x = new SeatedByDebts();")) x = new SeatedByDebts();
            else if (text.matches()) for (char letter : text.group(1).toCharArray()) x.feed(letter);
            else if (call.matches()) Due.is(line, answer(x, call.group(1), call.group(2)), Long.parseLong(call.group(3)));
            else Due.is("a row that can be read: " + line, 0, 1);
        }
        Due.end("ReadmeTest");
    }

    private static long answer(SeatedByDebts x, String name, String numbers) throws ReflectiveOperationException {
        String[] each = numbers.isEmpty() ? new String[0] : numbers.split(", ");
        Object[] values = new Object[each.length];
        for (int i = 0; i < each.length; i++) values[i] = Integer.valueOf(each[i]);
        for (Method m : SeatedByDebts.class.getMethods()) {
            if (m.getName().equals(name) && m.getParameterCount() == each.length) return ((Number) m.invoke(x, values)).longValue();
        }
        throw new NoSuchMethodException(name);
    }
}
