import java.io.IOException;
import java.lang.reflect.InvocationTargetException;
import java.lang.reflect.Method;
import java.nio.file.Files;
import java.nio.file.Path;
import java.util.HashMap;
import java.util.Map;
import java.util.regex.Matcher;
import java.util.regex.Pattern;

/** Makes the calls that README.md shows, and compares their answers with the ones behind them. */
final class ReadmeTest {
    private static final Check CHECK = new Check();
    private static final Pattern NEW = Pattern.compile(" {4}Joinhand (\\w+) = new Joinhand\\(\\);");
    private static final Pattern CALL = Pattern.compile(" {4}(?:int (\\w+) = )?(\\w+)\\.(\\w+)\\((.*)\\); +// (-?\\d+|true|false|throws \\w+)(?:: .*)?");

    private final Map<String, Joinhand> objects = new HashMap<>();
    private final Map<String, Integer> numbers = new HashMap<>();
    private int calls = 0;

    private int number(String word) throws ReflectiveOperationException {
        if (numbers.containsKey(word)) return numbers.get(word);
        if (word.startsWith("Joinhand.")) return Joinhand.class.getField(word.substring(9)).getInt(null);
        return Integer.parseInt(word);
    }

    private static Method method(String name) {
        for (Method m : Joinhand.class.getMethods()) {
            if (m.getName().equals(name) && m.getDeclaringClass() == Joinhand.class) return m;
        }
        throw new IllegalArgumentException("no such method: " + name);
    }

    private String answer(Joinhand x, String name, String told) throws ReflectiveOperationException {
        String[] words = told.isEmpty() ? new String[0] : told.split(", ");
        Object[] arguments = new Object[words.length];
        for (int i = 0; i < words.length; i++) arguments[i] = number(words[i]);
        try {
            return String.valueOf(method(name).invoke(x, arguments));
        } catch (InvocationTargetException e) {
            return "throws " + e.getCause().getClass().getSimpleName();
        }
    }

    private void line(String line) throws ReflectiveOperationException {
        Matcher made = NEW.matcher(line);
        Matcher call = CALL.matcher(line);
        if (made.matches()) {
            objects.put(made.group(1), new Joinhand());
        } else if (call.matches()) {
            calls++;
            String got = answer(objects.get(call.group(2)), call.group(3), call.group(4));
            if (!got.equals(call.group(5))) CHECK.tell("README.md: " + line.strip() + " answered " + got);
            if (call.group(1) != null) numbers.put(call.group(1), Integer.parseInt(got));
        } else if (line.startsWith("    ") && line.contains("(")) {
            CHECK.tell("README.md: not understood: " + line.strip());
        }
    }

    public static void main(String[] args) throws IOException, ReflectiveOperationException {
        ReadmeTest test = new ReadmeTest();
        for (String line : Files.readAllLines(Path.of("README.md"))) test.line(line);
        CHECK.is("README.md shows calls", 1, () -> test.calls > 30 ? 1 : test.calls);
        CHECK.end("ReadmeTest");
    }
}
