import java.io.IOException;
import java.lang.reflect.InvocationTargetException;
import java.lang.reflect.Method;
import java.lang.reflect.Modifier;
import java.nio.file.Files;
import java.nio.file.Path;
import java.util.List;
import java.util.regex.Matcher;
import java.util.regex.Pattern;
import java.util.stream.Collectors;
import java.util.stream.Stream;

/** README.md tells the truth: its calls answer what stands behind them, and it names all methods and tests. */
public final class ReadmeTest {
    private static final Path README = Path.of("README.md");
    private static final Path TESTS = Path.of("src", "test", "java");
    private static final Pattern CALL = Pattern.compile("hall\\.(\\w+)\\((.*)\\); +// (throws \\w+|\"[^\"]*\"|[^:]+): .+");

    private ReadmeTest() {
    }

    private static Method find(String name) {
        for (Method method : Clausehall.class.getDeclaredMethods()) {
            if (method.getName().equals(name) && Modifier.isPublic(method.getModifiers())) {
                return method;
            }
        }
        throw new AssertionError(name);
    }

    private static Object argument(Class<?> type, String text) {
        if (type == boolean.class) {
            return Boolean.valueOf(text);
        }
        return text.startsWith("0b") ? Integer.parseInt(text.substring(2), 2) : Integer.parseInt(text);
    }

    private static String answer(Clausehall hall, String name, String given) throws IllegalAccessException {
        Method method = find(name);
        Class<?>[] types = method.getParameterTypes();
        String[] texts = given.isEmpty() ? new String[0] : given.split(", ");
        Check.due("arguments of " + name, types.length, texts.length);
        Object[] arguments = new Object[types.length];
        for (int n = 0; n < types.length; n++) {
            arguments[n] = argument(types[n], texts[n]);
        }
        try {
            Object got = method.invoke(hall, arguments);
            return got instanceof String ? "\"" + got + "\"" : String.valueOf(got);
        } catch (InvocationTargetException e) {
            return "throws " + e.getCause().getClass().getSimpleName();
        }
    }

    private static void checkCalls(List<String> lines) throws IllegalAccessException {
        Clausehall hall = null;
        boolean isCode = false;
        int calls = 0;
        for (String line : lines) {
            if (line.startsWith("```")) {
                isCode = line.equals("```java");
            } else if (line.equals("Clausehall hall = new Clausehall();")) {
                hall = new Clausehall();
            } else if (isCode) {
                Matcher call = CALL.matcher(line);
                Check.due("is a call with its answer: " + line, true, call.matches());
                Check.due(line, call.group(3), answer(hall, call.group(1), call.group(2)));
                calls++;
            }
        }
        Check.due("calls are seen", true, calls > 30);
    }

    private static void checkNames(List<String> lines) throws IOException {
        String text = String.join("\n", lines);
        String list = text.substring(text.indexOf("All methods"), text.indexOf("## Tests"));
        for (Method method : Clausehall.class.getDeclaredMethods()) {
            if (Modifier.isPublic(method.getModifiers())) {
                Check.due("names " + method.getName(), true, list.contains("`" + method.getName() + "`"));
            }
        }
        try (Stream<Path> files = Files.list(TESTS)) {
            for (Path file : files.collect(Collectors.toList())) {
                String name = file.getFileName().toString().replace(".java", "");
                boolean isTest = Files.readString(file).contains("public static void main");
                Check.due("has a row for " + name, isTest, text.contains("| `" + name + "` |"));
            }
        }
    }

    public static void main(String[] args) throws Exception {
        List<String> lines = Files.readAllLines(README);
        checkCalls(lines);
        checkNames(lines);
        Check.end();
    }
}
