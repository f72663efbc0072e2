import java.io.PrintWriter;
import java.io.StringWriter;
import java.nio.file.Files;
import java.nio.file.Path;
import java.util.List;
import java.util.Set;
import java.util.regex.Matcher;
import java.util.regex.Pattern;
import java.util.spi.ToolProvider;
import java.util.stream.Collectors;
import java.util.stream.Stream;

/** What can be seen of LANGUAGE.md's rules in the program's text and in its class files. */
public final class LanguageTest {
    private static final Path SOURCE = Path.of("src", "main", "java", "Clausehall.java");
    /** Rule 4, each call of the library as the class files name it. */
    private static final List<String> LIBRARY = List.of(
            "Object\\.<init>:.*", "String\\.(length|charAt|isEmpty|equals|substring|toCharArray):.*",
            "String\\.indexOf:\\(I\\)I", "String\\.<init>:\\(\\[C\\)V",
            "StringBuilder\\.<init>:\\(\\)V", "StringBuilder\\.append:\\((C|I|Ljava/lang/String;)\\).*",
            "StringBuilder\\.(charAt|setCharAt|setLength|deleteCharAt|reverse|length|toString):.*",
            "(ArrayList|List)\\.(add|get|set|size|isEmpty|clear|iterator|of):.*", "ArrayList\\.<init>:\\(\\)V",
            "(ArrayList|List)\\.remove:\\(I\\).*", "Iterator\\.(hasNext|next):.*",
            "(Integer|Long|Math)\\.(?!\\w*Exact)\\w+:\\([IJ]+\\)[IJZ]", "Integer\\.(valueOf|intValue):.*",
            "System\\.arraycopy:.*", "Arrays\\.(copyOf|copyOfRange|fill):.*",
            "(IllegalState|IllegalArgument|IndexOutOfBounds|Arithmetic|UnsupportedOperation|NoSuchElement|Runtime)"
            + "Exception\\.<init>:\\((Ljava/lang/String;)?\\)V");
    private static final Set<String> IMPORTS = Set.of("ArrayList", "Arrays", "List", "Iterator", "NoSuchElementException");

    private LanguageTest() {
    }

    private static void checkLines(List<String> lines) {
        int start = 0;
        for (int n = 0; n < lines.size(); n++) {
            String line = lines.get(n);
            Check.due("signs to 127 in line " + (n + 1), true, line.chars().allMatch(c -> c >= 32 && c < 127));
            if (line.startsWith("import")) {
                Check.due("import of rule 4", true, IMPORTS.contains(line.replaceAll("import java\\.util\\.|;", "")));
            }
            String code = line.replaceAll("\"[^\"]*\"|//.*|^\\s*/?\\*.*", "");
            Check.due("no such word in line " + (n + 1), false, code.matches(".*(\\b(synchronized|assert|finally|package"
                    + "|hashCode)\\b|::|\"\\s*\\+|\\+\\s*\").*"));
            if (code.matches("(    |        )(public|private|static|final|[A-Za-z]+).*\\)( throws .*)? *\\{")) {
                start = n;
            }
            if (line.matches("    (    )?\\}")) {
                Check.due("some sixty lines up to line " + (n + 1), true, n - start < 60);
            }
        }
    }

    private static String disassembled(List<String> names) {
        ToolProvider javap = ToolProvider.findFirst("javap").orElseThrow();
        StringWriter said = new StringWriter();
        String[] args = Stream.concat(Stream.of("-c", "-p", "-cp", System.getProperty("java.class.path")),
                names.stream()).toArray(String[]::new);
        javap.run(new PrintWriter(said), new PrintWriter(said), args);
        return said.toString();
    }

    private static void checkCode(String code) {
        Matcher call = Pattern.compile("(?:Interface)?Method (java/\\S+)").matcher(code.replace("\"<init>\"", "<init>"));
        int calls = 0;
        while (call.find()) {
            calls++;
            String called = call.group(1).replaceFirst("^java/(lang|util)/", "");
            Check.due("in the library: " + called, true, LIBRARY.stream().anyMatch(called::matches));
        }
        Check.due("calls are seen", true, calls > 50);
        for (String word : new String[] {"invokedynamic", "monitorenter"}) {
            Check.due("no " + word, false, code.contains(word));
        }
        String method = "";
        for (String line : code.split("\n")) {
            if (line.matches("  \\S.*\\).*;")) {
                method = line;
            }
            if (line.contains(": athrow")) {
                Check.due("throws in a constructor: " + method, false, method.matches(".*\\bClausehall(\\$\\w+)?\\(.*"));
            }
        }
    }

    /** Rule 6: a call of the face throws what it names, by a throw statement of its own. */
    private static void checkThrows(String code) {
        String method = "";
        for (String line : code.split("\n")) {
            if (line.matches("  \\S.*\\).*;")) {
                method = line;
            }
            Matcher made = Pattern.compile(": new .*// class java/lang/(\\w+Exception)").matcher(line);
            if (made.find() && method.startsWith("  public ")) {
                Check.due("is named: " + method, true, method.contains("java.lang." + made.group(1)));
            }
        }
    }

    public static void main(String[] args) throws Exception {
        List<String> lines = Files.readAllLines(SOURCE);
        checkLines(lines);
        List<String> names = Stream.concat(Stream.of("Clausehall"),
                Stream.of(Clausehall.class.getDeclaredClasses()).map(Class::getName)).collect(Collectors.toList());
        String code = disassembled(names);
        checkCode(code);
        checkThrows(code);
        Check.end();
    }
}
