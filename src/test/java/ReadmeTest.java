import java.io.IOException;
import java.lang.reflect.InvocationTargetException;
import java.lang.reflect.Method;
import java.nio.file.Files;
import java.nio.file.Path;
import java.util.HashMap;
import java.util.List;
import java.util.Map;
import java.util.regex.Matcher;
import java.util.regex.Pattern;

/** The calls that README.md tells are made here, line by line, and must answer what their comments begin with. */
public final class ReadmeTest {
    private static final String START = "Patiencearchive archive = new Patiencearchive();";
    private static final Pattern CALL =
            Pattern.compile("(?:int (\\w+) = )?archive\\.(\\w+)\\((.*)\\); +// (-?\\d+|'.').*");

    private final Checks checks = new Checks();
    private final Patiencearchive archive = new Patiencearchive();
    private final Map<String, Object> names = new HashMap<>();

    private ReadmeTest() {
    }

    public static void main(String[] args) throws IOException {
        String text = Files.readString(Path.of("README.md"));
        String[] parts = text.split("```(java)?\n");
        ReadmeTest test = new ReadmeTest();
        test.checks.is("an example in README.md", true, () -> parts.length == 3 && parts[1].startsWith(START));
        if (parts.length == 3) {
            test.example(parts[1].substring(START.length()).lines().filter(line -> !line.isBlank()).toList());
        }
        test.checks.end("ReadmeTest");
    }

    private void example(List<String> lines) {
        for (String line : lines) {
            Matcher told = CALL.matcher(line);
            if (!told.matches()) {
                checks.is(line, "a call with its answer", () -> "no such line");
                continue;
            }
            Object got = Checks.answer(() -> answer(told.group(2), told.group(3)));
            checks.is(line, told.group(4), () -> got instanceof Character ? "'" + got + "'" : String.valueOf(got));
            if (told.group(1) != null) {
                names.put(told.group(1), got);
            }
        }
    }

    private Object answer(String name, String text) {
        String[] words = text.isEmpty() ? new String[0] : text.split(", ");
        Object[] arguments = new Object[words.length];
        for (int i = 0; i < words.length; i++) {
            arguments[i] = argument(words[i]);
        }
        for (Method each : Patiencearchive.class.getDeclaredMethods()) {
            if (each.getName().equals(name) && each.getParameterCount() == words.length) {
                return invoke(each, arguments);
            }
        }
        throw new IllegalArgumentException("no call " + name + "(" + text + ")");
    }

    private Object argument(String word) {
        if (word.startsWith("'")) {
            return word.charAt(1);
        }
        return names.containsKey(word) ? names.get(word) : (Object) Integer.parseInt(word);
    }

    private Object invoke(Method method, Object[] arguments) {
        try {
            return method.invoke(archive, arguments);
        } catch (InvocationTargetException e) {
            throw new IllegalStateException(e.getCause());
        } catch (IllegalAccessException e) {
            throw new IllegalStateException(e);
        }
    }
}
