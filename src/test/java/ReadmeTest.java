import java.io.IOException;
import java.lang.reflect.Method;
import java.lang.reflect.Modifier;
import java.nio.file.DirectoryStream;
import java.nio.file.Files;
import java.nio.file.Path;
import java.util.Set;
import java.util.TreeSet;
import java.util.regex.Matcher;
import java.util.regex.Pattern;

/** README.md: its calls answer what it says behind them, and it shows and names every call, and names every file of the tests. */
public final class ReadmeTest {
    private static final Due due = new Due();
    private static final Pattern CALL = Pattern.compile("^mill\\.(\\w+)\\(([^)]*)\\); +// (-?\\d+)(:.*)?$");

    public static void main(String[] args) throws IOException, ReflectiveOperationException {
        String text = Files.readString(Path.of("README.md"));
        Set<String> shown = callsAnswerAsTold(text);
        for (Method m : YarnMill.class.getDeclaredMethods()) {
            if (Modifier.isPublic(m.getModifiers())) {
                due.holds("shows a call of " + m.getName(), shown.contains(m.getName()));
                due.holds("names " + m.getName(), text.contains("`" + m.getName() + "`"));
            }
        }
        everyTestIsNamed(text);
        due.end();
    }

    /** The names of the calls that it found. */
    private static Set<String> callsAnswerAsTold(String text) throws ReflectiveOperationException {
        YarnMill mill = new YarnMill();
        Set<String> shown = new TreeSet<>();
        for (String line : text.split("\n")) {
            Matcher call = CALL.matcher(line);
            boolean isCall = call.matches();
            due.holds("can be read: " + line, isCall || !line.startsWith("mill."));
            if (isCall) {
                due.is(line, answer(mill, call.group(1), call.group(2)), Long.parseLong(call.group(3)));
                shown.add(call.group(1));
            }
        }
        return shown;
    }

    private static long answer(YarnMill mill, String name, String listed) throws ReflectiveOperationException {
        String[] numbers = listed.isEmpty() ? new String[0] : listed.split(", ");
        Class<?>[] types = new Class<?>[numbers.length];
        Object[] values = new Object[numbers.length];
        for (int i = 0; i < numbers.length; i++) {
            types[i] = int.class;
            values[i] = Integer.valueOf(numbers[i]);
        }
        return ((Number) YarnMill.class.getMethod(name, types).invoke(mill, values)).longValue();
    }

    private static void everyTestIsNamed(String text) throws IOException {
        try (DirectoryStream<Path> files = Files.newDirectoryStream(Path.of("src/test/java"), "*.java")) {
            for (Path file : files) {
                String name = file.getFileName().toString().replace(".java", "");
                due.holds("names " + name, text.contains("`" + name + "`"));
            }
        }
    }
}
