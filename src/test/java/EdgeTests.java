import java.util.List;
import java.util.Map;

/** Each sentence of DOC.md that names a bound has a test of its own here, which bears the sentence. */
public final class EdgeTests {
    /** The sentences that say nothing of their own, or nothing that a call could show. */
    private static final Map<String, List<String>> PLAIN = Map.ofEntries(
            Map.entry("W", List.of("A hall of clauses: clauses of literals are told, dropped, weighed, also from sentences that"
                    + " are typed, and from bounds on how many may be true; a search goes step by step, by single literals,"
                    + " choices, conflicts from which it learns, jumps, and ends with a yes and a witness, or with a no and a"
                    + " proof.", "One asks for models, their number, the k-th one, parts that share nothing, literals that"
                    + " each model has, what follows from what is assumed, the least of it that fails, cores, the greatest"
                    + " weight, and who is in whom.")),
            Map.entry("S4", List.of("The constructor and the methods follow, a promise each: the signature, then what it"
                    + " does.")),
            Map.entry("P2", List.of("`width`: WIDTH")),
            Map.entry("P4", List.of("`clause`: the number of a told CLAUSE")),
            Map.entry("P5", List.of("`clause`: the number of a told CLAUSE", "`weight`: WEIGHT")),
            Map.entry("P10", List.of("`variable`: the VARIABLE")),
            Map.entry("P11", List.of("`variable`: the VARIABLE", "`is`: SIGN")),
            Map.entry("P12", List.of("A STEP.")),
            Map.entry("P17", List.of("Knocks at the hall's door: it stays shut.")),
            Map.entry("P19", List.of("Returns that.")),
            Map.entry("P20", List.of("`nth`: a number", "Returns that.")),
            Map.entry("P23", List.of("Returns that.")),
            Map.entry("P27", List.of("`nth`: a number")),
            Map.entry("P29", List.of("`part`: a PART", "Returns that.")),
            Map.entry("P30", List.of("`variable`: a VARIABLE", "Returns that.")),
            Map.entry("P31", List.of("What is assumed: some VARIABLES true, some false.", "`yes`: the set of those true",
                    "`no`: the set of those false")),
            Map.entry("P32", List.of("`yes`: the set of those true", "`no`: the set of those false")),
            Map.entry("P33", List.of("`yes`: the set of those true", "`no`: the set of those false")),
            Map.entry("P36", List.of("Returns that.")),
            Map.entry("P38", List.of("Computes a checksum.", "Returns d.")),
            Map.entry("N", List.of("How the state is held inside the object is free, as are the speed of each call, the text"
                    + " of toString and the behaviour of equals and hashCode.", "Use of one object from several threads at"
                    + " once is not promised to be safe.")));

    private EdgeTests() {
    }

    public static void main(String[] args) throws Exception {
        EdgesOfClauses.run();
        EdgesOfSentences.run();
        EdgesOfSearch.run();
        EdgesOfAnswers.run();
        EdgesOfModels.run();
        Edges.checkDocument(PLAIN);
        Check.end();
    }
}
