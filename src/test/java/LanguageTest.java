import java.io.PrintWriter;
import java.io.StringWriter;
import java.nio.file.Files;
import java.nio.file.Path;
import java.util.List;
import java.util.Set;
import java.util.regex.Matcher;
import java.util.regex.Pattern;
import java.util.spi.ToolProvider;
import java.util.stream.Collectors;
import java.util.stream.Stream;

/** What can be seen of LANGUAGE.md's rules in the program's text and in its class files. */
public final class LanguageTest {
    private static final Path SOURCE = Path.of("src", "main", "java", "Clausehall.java");
    private static final Set<String> LIBRARY = Set.of(
            "java/lang/Object.<init>:()V",
            "java/util/ArrayList.<init>:()V", "java/util/ArrayList.add:(Ljava/lang/Object;)Z",
            "java/util/ArrayList.get:(I)Ljava/lang/Object;", "java/util/ArrayList.remove:(I)Ljava/lang/Object;",
            "java/util/ArrayList.size:()I", "java/util/ArrayList.clear:()V",
            "java/util/Arrays.copyOf:([II)[I", "java/util/Arrays.fill:([II)V",
            "java/lang/String.length:()I", "java/lang/String.charAt:(I)C",
            "java/lang/StringBuilder.<init>:()V", "java/lang/StringBuilder.append:(C)Ljava/lang/StringBuilder;",
            "java/lang/StringBuilder.append:(I)Ljava/lang/StringBuilder;",
            "java/lang/StringBuilder.charAt:(I)C", "java/lang/StringBuilder.setLength:(I)V",
            "java/lang/StringBuilder.length:()I", "java/lang/StringBuilder.toString:()Ljava/lang/String;",
            "java/lang/Integer.bitCount:(I)I", "java/lang/Long.bitCount:(J)I",
            "java/lang/Math.max:(II)I", "java/lang/Math.abs:(I)I",
            "java/lang/IllegalStateException.<init>:(Ljava/lang/String;)V",
            "java/lang/IllegalArgumentException.<init>:(Ljava/lang/String;)V",
            "java/lang/IndexOutOfBoundsException.<init>:(Ljava/lang/String;)V");

    private LanguageTest() {
    }

    private static void checkLines(List<String> lines) {
        int start = 0;
        for (int n = 0; n < lines.size(); n++) {
            String line = lines.get(n);
            Check.due("signs to 127 in line " + (n + 1), true, line.chars().allMatch(c -> c >= 32 && c < 127));
            if (line.startsWith("import")) {
                Check.due("import", true, line.equals("import java.util.ArrayList;")
                        || line.equals("import java.util.Arrays;"));
            }
            String code = line.replaceAll("\"[^\"]*\"|//.*|^\\s*/?\\*.*", "");
            Check.due("no such word in line " + (n + 1), false, code.matches(
                    ".*(\\bwhile\\b|->|::|\\bsynchronized\\b|\\bassert\\b|\\bfinally\\b|\\bcatch\\b|\\binstanceof\\b"
                    + "|\\bpackage\\b|\\bSystem\\b|\\bequals\\b|\\bhashCode\\b|\"\\s*\\+|\\+\\s*\").*"));
            if (code.matches("(    |        )(public|private|static|final|[A-Za-z]+).*\\)( throws .*)? *\\{")) {
                start = n;
            }
            if (line.matches("    (    )?\\}")) {
                Check.due("some sixty lines up to line " + (n + 1), true, n - start < 60);
            }
        }
    }

    private static String disassembled(List<String> names) {
        ToolProvider javap = ToolProvider.findFirst("javap").orElseThrow();
        StringWriter said = new StringWriter();
        String[] args = Stream.concat(Stream.of("-c", "-p", "-cp", System.getProperty("java.class.path")),
                names.stream()).toArray(String[]::new);
        javap.run(new PrintWriter(said), new PrintWriter(said), args);
        return said.toString();
    }

    private static void checkCode(String code) {
        Matcher call = Pattern.compile("(?:Interface)?Method (java/\\S+)").matcher(code.replace("\"<init>\"", "<init>"));
        int calls = 0;
        while (call.find()) {
            calls++;
            Check.due("in the library: " + call.group(1), true, LIBRARY.contains(call.group(1)));
        }
        Check.due("calls are seen", true, calls > 50);
        for (String word : new String[] {"invokedynamic", "monitorenter", "Exception table"}) {
            Check.due("no " + word, false, code.contains(word));
        }
        Matcher cast = Pattern.compile("checkcast .*// class (\\S+)").matcher(code);
        while (cast.find()) {
            Check.due("the list's own cast alone", "Clausehall$Clause", cast.group(1));
        }
        String method = "";
        for (String line : code.split("\n")) {
            if (line.matches("  \\S.*\\).*;")) {
                method = line;
            }
            if (line.contains(": athrow")) {
                Check.due("throws only where the face does: " + method, true,
                        method.startsWith("  public ") && method.contains(" throws "));
            }
        }
    }

    public static void main(String[] args) throws Exception {
        List<String> lines = Files.readAllLines(SOURCE);
        checkLines(lines);
        List<String> names = Stream.concat(Stream.of("Clausehall"),
                Stream.of(Clausehall.class.getDeclaredClasses()).map(Class::getName)).collect(Collectors.toList());
        checkCode(disassembled(names));
        Check.end();
    }
}
