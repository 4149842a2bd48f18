import java.io.IOException;
import java.lang.reflect.Method;
import java.nio.file.Files;
import java.nio.file.Path;
import java.util.regex.Matcher;
import java.util.regex.Pattern;

/** README.md's own example: each answer that it tells is the one that the class gives. */
public final class ReadmeTest {
    private static final Pattern HOUSE = Pattern.compile("for \\(char c : \"([^\"]+)\"");
    private static final Pattern CALL = Pattern.compile("x\\.(\\w+)\\(([-\\d, ]*)\\);\\s*// (-?\\d+):.*");

    public static void main(String[] args) throws IOException, ReflectiveOperationException {
        DraughtsByCandle x = new DraughtsByCandle();
        Due.sentence("README.md");
        int calls = 0;
        for (String line : Files.readAllLines(Path.of("README.md"))) {
            Matcher house = HOUSE.matcher(line);
            if (house.find()) Due.letters(x, house.group(1));
            Matcher call = CALL.matcher(line);
            if (call.matches()) {
                calls++;
                Due.is(line, answer(x, call.group(1), call.group(2)), Integer.parseInt(call.group(3)));
            } else if (line.startsWith("x.")) {
                Due.is("an answer told in the line " + line, 0, 1);
            }
        }
        Due.is("more than ten calls are told", calls > 10 ? 1 : 0, 1);
        Due.end();
    }

    private static int answer(DraughtsByCandle x, String name, String told) throws ReflectiveOperationException {
        String[] parts = told.isBlank() ? new String[0] : told.split(",");
        Class<?>[] types = new Class<?>[parts.length];
        Object[] arguments = new Object[parts.length];
        for (int i = 0; i < parts.length; i++) {
            types[i] = int.class;
            arguments[i] = Integer.parseInt(parts[i].trim());
        }
        Method method = DraughtsByCandle.class.getMethod(name, types);
        return (Integer) method.invoke(x, arguments);
    }
}
