import java.io.IOException;
import java.nio.file.Files;
import java.nio.file.Path;
import java.util.ArrayList;
import java.util.LinkedHashMap;
import java.util.List;
import java.util.Map;

/** Tests that each hold the program against one sentence of DOC.md, and what they share. */
final class Edges {
    interface Test {
        void run();
    }

    interface Recipe {
        Hall make();
    }

    interface Call {
        Object on(Hall x);
    }

    static final Class<?> ARGUMENT = IllegalArgumentException.class;
    static final Class<?> STATE = IllegalStateException.class;
    static final Class<?> INDEX = IndexOutOfBoundsException.class;
    static final int LOW = Integer.MIN_VALUE;
    static final int HIGH = Integer.MAX_VALUE;

    private static final Path DOC = Path.of("..", "shared", "DOC.md");
    private static final Map<String, List<String>> TESTED = new LinkedHashMap<>();

    private Edges() {
    }

    /** One test of one sentence, or of a part of it, which stands in this section of the document. */
    static void edge(String section, String sentence, Test test) {
        TESTED.computeIfAbsent(section, s -> new ArrayList<>()).add(sentence);
        Check.begin(section + ": " + sentence);
        int before = Check.made();
        try {
            test.run();
        } catch (RuntimeException | AssertionError e) {
            Check.due("is thrown in the test", "nothing", e + " at " + e.getStackTrace()[0]);
        }
        Check.due("something is tested", true, Check.made() > before);
        Check.begin("");
    }

    /** The call throws just this, and behind it all answers are those of a hall that was not called. */
    static void refused(String name, Class<?> want, Recipe recipe, Call call) {
        Hall x = recipe.make();
        Check.fails(name, want, () -> call.on(x));
        Check.due(name + " changes nothing", probe(recipe.make()), probe(x));
    }

    /** The same in each state of WIDTH 6. */
    static void refusedAlways(String name, Class<?> want, Call call) {
        Recipe[] states = Halls.states();
        for (int n = 0; n < states.length; n++) {
            refused(name + " in state " + n, want, states[n], call);
        }
    }

    /** What a call answers, or which exception it throws. */
    static String ask(Hall x, Call call) {
        try {
            return call.on(x) + ";";
        } catch (IndexOutOfBoundsException | IllegalArgumentException | IllegalStateException e) {
            return e.getClass() + ";";
        }
    }

    /** All that can be asked of a hall of some 200 calls, and what comes of it when it goes on. */
    static String probe(Hall x) {
        StringBuilder s = new StringBuilder();
        for (int what = 0; what <= 15; what++) {
            s.append(x.house(what)).append(' ');
        }
        int ever = x.house(3);
        for (int number = 0; number < ever; number++) {
            int clause = number;
            for (int what : new int[] {2, 3, 6, 7}) {
                s.append(ask(x, h -> h.ofClause(clause, what)));
            }
            s.append(ask(x, h -> h.clause(clause)));
        }
        s.append(x.trailed()).append(x.typed()).append(x.fault()).append(x.fixed()).append(x.core());
        s.append(x.best(true)).append(x.follows(1, 0)).append(x.isSound()).append(x.digest());
        for (int nth = 0; nth < 4; nth++) {
            s.append(x.line(nth)).append(x.model(nth * nth)).append(ask(x, h -> h.trail(0, 2)));
        }
        return s.append(probeOnwards(x, x.house(0))).toString();
    }

    private static String probeOnwards(Hall x, int width) {
        StringBuilder s = new StringBuilder();
        s.append(x.run(2)).append(x.trailed()).append(x.run(60)).append(x.trailed()).append(x.house(13));
        for (int v = 1; v <= width; v++) {
            s.append(x.score(v, v)).append(x.sign(v, v % 2 == 0));
        }
        s.append(ask(x, Hall::sentence)).append(ask(x, h -> h.tell(1, 0, 0, 0, 1))).append(x.run(60));
        s.append(x.code(19)).append(x.typed()).append(x.blank()).append(x.knock());
        s.append(x.clear()).append(x.add(width)).append(x.clear()).append(x.wide(12));
        for (int v = width + 1; v <= 12; v++) {
            s.append(x.score(v, v)).append(x.sign(v, false));
        }
        return s.append(x.digest()).toString();
    }

    // ---- the document's sentences

    /** Each sentence of the document has tests for all its words, or is one of these, which name nothing to test. */
    static void checkDocument(Map<String, List<String>> plain) throws IOException {
        if (!Files.exists(DOC)) {
            System.out.println("no " + DOC + ": its sentences are not compared");
            return;
        }
        Map<String, List<String>> sentences = sentences(Files.readAllLines(DOC));
        sentences.forEach((section, list) -> {
            for (String sentence : list) {
                String left = untested(sentence, TESTED.getOrDefault(section, List.of()));
                boolean isPlain = plain.getOrDefault(section, List.of()).contains(sentence);
                Check.due(section + " without a test", isPlain ? sentence : "", left);
            }
        });
        checkStand(TESTED, sentences);
        checkStand(plain, sentences);
    }

    /** What is left of a sentence without those parts that have tests; nothing, if no letter or number is. */
    private static String untested(String sentence, List<String> tested) {
        StringBuilder left = new StringBuilder(sentence);
        for (String part : tested) {
            int at = sentence.indexOf(part);
            for (int n = 0; at >= 0 && n < part.length(); n++) {
                left.setCharAt(at + n, ' ');
            }
        }
        String words = left.toString().strip();
        return words.chars().anyMatch(Character::isLetterOrDigit) ? words : "";
    }

    private static void checkStand(Map<String, List<String>> told, Map<String, List<String>> sentences) {
        told.forEach((section, list) -> {
            List<String> there = sentences.getOrDefault(section, List.of());
            for (String one : list) {
                Check.due(section + " stands in the document: " + one, true,
                        there.stream().anyMatch(sentence -> sentence.contains(one)));
            }
        });
    }

    /** Sections: W what it is, D the description, S1 to S4 its parts, P1 to P38 the promises, N not promised. */
    private static Map<String, List<String>> sentences(List<String> lines) {
        Map<String, List<String>> all = new LinkedHashMap<>();
        String section = "";
        boolean isCode = false;
        for (String line : lines) {
            String text = line.strip();
            isCode ^= text.startsWith("```");
            if (text.startsWith("## ") || text.startsWith("== ")) {
                section = sectionOf(text);
            } else if (!isCode && !section.isEmpty() && !text.isEmpty() && !text.startsWith("----")
                    && !text.matches("`[^`]*`")) {
                String plain = text.replaceFirst("^(- |\\d\\. )", "");
                all.computeIfAbsent(section, s -> new ArrayList<>())
                        .addAll(List.of(plain.split("(?:(?<=\\.)|(?<=\\.\\)))\\s+(?=[A-Z(\"])")));
            }
        }
        return all;
    }

    private static String sectionOf(String heading) {
        if (heading.startsWith("## Promise ")) {
            return "P" + heading.replaceFirst("## Promise (\\d+):.*", "$1");
        }
        if (heading.startsWith("== ")) {
            return "S" + heading.charAt(3);
        }
        return heading.equals("## What it is") ? "W" : heading.equals("## Description") ? "D"
                : heading.equals("## Not promised") ? "N" : "";
    }
}
