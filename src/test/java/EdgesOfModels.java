import java.math.BigInteger;

/** The document's sentences on MODELS, PARTS, CORES and WEIGHTS: part 3, promises 26 to 38. */
final class EdgesOfModels {
    private static final Class<?> ARGUMENT = Edges.ARGUMENT;
    private static final Class<?> INDEX = Edges.INDEX;
    private static final int LOW = Edges.LOW;
    private static final int HIGH = Edges.HIGH;

    private EdgesOfModels() {
    }

    static void run() {
        part3();
        promises26To28();
        promises29And30();
        promises31And32();
        promise33();
        promises34To36();
        promise37();
        promise38();
    }

    private static void edge(String section, String sentence, Edges.Test test) {
        Edges.edge(section, sentence, test);
    }

    // ---- halls

    /** A chain of so many CLAUSES from 1 to its OPPOSITE, of which each is needed. */
    private static Hall chain(int clauses) {
        Hall x = Halls.wide(12);
        x.add(1);
        for (int v = 1; v < clauses - 1; v++) {
            x.add(-v, v + 1);
        }
        x.add(1 - clauses);
        return x;
    }

    private static Hall oneModel() {
        Hall x = new Hall();
        for (int v = 1; v <= 6; v++) {
            x.add(v);
        }
        return x;
    }

    private static String ofVariable(Hall x, int variable) {
        return x.ofVariable(variable, 0) + " " + x.ofVariable(variable, 1) + " " + x.ofVariable(variable, 2) + " "
                + x.ofVariable(variable, 3);
    }

    // ---- part 3

    private static void part3() {
        edge("S3", "Two VARIABLES are of one PART, if they stand in one told CLAUSE (whichever way, ALWAYS TRUE ones aside),"
                + " and so on.", () -> {
            Hall x = Halls.wide(12);
            for (int v = 12; v > 1; v--) {
                x.add(v, 1 - v);
                Check.due("and so on", "1 " + (4096 - (1 << (v - 2))), x.house(11) + " " + x.part(0, false));
            }
            Hall y = Halls.wide(12);
            y.add(1, -1, 2, 3);
            y.add(2, -3);
            y.add(4, 5, -4, 6);
            Check.due("ALWAYS TRUE ones aside", "1 6", y.house(11) + " " + y.part(0, false));
            Hall z = Halls.searching();
            Check.due("told ones alone", "2 13 18", z.house(11) + " " + z.part(0, false) + " " + z.part(1, false));
        });
        edge("S3", "A VARIABLE that stands in none is of no PART.", () -> {
            Check.due("none", "0 6", new Hall().houses(11, 15));
            Hall x = Halls.wide(12);
            x.add(2, -2, 3);
            x.add();
            Check.due("none", "0 12", x.houses(11, 15));
            x.add(12);
            Check.due("one", "1 11 2048", x.houses(11, 15) + " " + x.part(0, false));
        });
        edge("S3", "PARTS are numbered from 0, by their smallest VARIABLES.", () -> {
            Hall x = Halls.wide(12);
            x.add(3, 4);
            x.add(2, 12);
            x.add(1, 11);
            x.add(5);
            Check.due("sets", "1025 2050 12 16", x.part(0, false) + " " + x.part(1, false) + " " + x.part(2, false) + " "
                    + x.part(3, false));
            Hall y = Halls.wide(12);
            y.atMost(4095, 0);
            for (int part = 0; part < 12; part++) {
                Check.due("twelve PARTS", 1 << part, y.part(part, false));
            }
        });
        edge("S3", "MODELS of a PART: of its VARIABLES alone, by CLAUSES of these.", () -> {
            Hall x = Halls.wide(12);
            x.add(1, 11);
            x.add(2);
            x.add(-2);
            x.add(12, 1, -12);
            Check.due("others do not count", "3 0 0", x.part(0, true) + " " + x.part(1, true) + " " + x.models());
            x.drop(2);
            Check.due("one", "3 1 1536", x.part(0, true) + " " + x.part(1, true) + " " + x.models());
            Hall y = Halls.wide(12);
            y.add(1, 2, 3, 4);
            y.add(4, 5, 6, 7);
            y.add(7, 8, 9, 10);
            y.add(10, 11, 12);
            Check.due("one PART of all", y.models(), y.part(0, true));
            y.add();
            Check.due("the empty one is of no PART", "0 true", y.models() + " " + (y.part(0, true) > 0));
            Hall z = Halls.jump();
            z.run(60);
            z.add(2);
            z.add(-3, 4);
            Check.due("told ones about a LEARNED one", "13 5: 2 1", z.part(0, false) + " " + z.part(0, true) + ": "
                    + z.part(1, false) + " " + z.part(1, true));
        });
        edge("S3", "A told CLAUSE is IN another one, if all its LITERALS are among those of that (of two with the same"
                + " LITERALS that with the smaller number alone is IN the other one); an ALWAYS TRUE one is IN none.",
                EdgesOfModels::whoIsInWhom);
        edge("S3", "THE CORE, if there is no MODEL: of all told CLAUSES, one by one from the smallest number on, each is left"
                + " out, if the others that are left have no MODEL either.", () -> {
            Hall x = new Hall();
            x.add(1);
            x.add(-1);
            x.add(2);
            x.add(-2);
            Check.due("the first ones go", "2 3", x.core());
            x.add(1, 3);
            x.add(1, -3);
            x.add(-1);
            Check.due("the first ones go", "4 5 6", x.core());
            x.add();
            Check.due("the empty one alone", "7", x.core());
            x.add();
            Check.due("of two the last one", "8", x.core());
            Hall y = Halls.wide(12).fill(28);
            y.add(12);
            y.add(-12);
            Check.due("of thirty", "28 29", y.core());
        });
        edge("S3", "LEAST CORE: how many CLAUSES the smallest set of told CLAUSES has that has no MODEL, if these are 5 at"
                + " most.", () -> {
            for (int clauses = 2; clauses <= 7; clauses++) {
                Check.due("chain of " + clauses, clauses <= 5 ? clauses : -1, chain(clauses).leastCore());
            }
            Hall x = chain(6);
            x.add(3, -2);
            x.add(-4, -3);
            Check.due("five of eight", 5, x.leastCore());
            x.add(-3);
            Check.due("four of nine", 4, x.leastCore());
            Hall y = chain(7).fill(22);
            y.add();
            Check.due("one of thirty", 1, y.leastCore());
            Hall z = Halls.wide(12);
            for (int n = 0; n < 29; n++) {
                z.add(12);
            }
            z.add(-12);
            Check.due("two of thirty", 2, z.leastCore());
            z.clear();
            for (int n = 0; n < 30; n++) {
                z.add();
            }
            Check.due("one of thirty empty ones", 1, z.leastCore());
            leastCoresByTrying();
        });
    }

    /** Halls of ten CLAUSES of up to five VARIABLES, against each set of five of these CLAUSES at most. */
    private static void leastCoresByTrying() {
        int[] counts = new int[7];
        for (int seed = 1; seed <= 90; seed++) {
            int many = seed % 4 + 2;
            int width = seed % 3 == 0 ? 12 : many;
            int[] five = width == 12 ? new int[] {1, 3, 6, 7, 12} : new int[] {1, 2, 3, 4, 5};
            int[][] clauses = new int[10][];
            long s = seed * 7919L;
            for (int n = 0; n < clauses.length; n++) {
                clauses[n] = new int[n == 0 && seed % 2 == 0 ? 1 : n < 2 ? 3 : 2];
                for (int at = 0; at < clauses[n].length; at++) {
                    s = s * 6364136223846793005L + 1442695040888963407L;
                    int variable = five[(int) (s >>> 40) % many];
                    clauses[n][at] = (s >>> 20 & 1) == 0 ? variable : -variable;
                }
            }
            int due = leastByTrying(clauses, width);
            counts[due + 1]++;
            Check.due("hall " + seed, due, hallOf(clauses, width, -1).leastCore());
        }
        for (int due = 2; due <= 4; due++) {
            Check.due("halls with " + due, true, counts[due + 1] >= 5);
        }
        Check.due("halls with a MODEL, or more than five", true, counts[0] >= 5);
    }

    private static Hall hallOf(int[][] clauses, int width, int chosen) {
        Hall x = Halls.wide(width);
        for (int n = 0; n < clauses.length; n++) {
            if ((chosen >> n & 1) != 0) {
                x.add(clauses[n]);
            }
        }
        return x;
    }

    private static int leastByTrying(int[][] clauses, int width) {
        int least = 6;
        for (int chosen = 0; chosen < 1 << clauses.length; chosen++) {
            if (Integer.bitCount(chosen) < least && hallOf(clauses, width, chosen).models() == 0) {
                least = Integer.bitCount(chosen);
            }
        }
        return least == 6 ? -1 : least;
    }

    private static void whoIsInWhom() {
        Hall x = Halls.wide(12);
        x.add(1, -2, 3, -12);
        x.add(1, -2, 3);
        x.add(3, 1, -2);
        x.add(-2, 3);
        x.add(2, 3);
        x.add(1, -1, 3);
        x.add(1, -1, 3);
        x.add(3);
        int[] due = {1, 3, 1, 7, 7, 7, 7, -1};
        for (int clause = 0; clause < due.length; clause++) {
            Check.due("in " + clause, due[clause], x.ofClause(clause, 7));
        }
        x.drop(7);
        int[] fewer = {1, 3, 1, -1, -1, -1, -1};
        for (int clause = 0; clause < fewer.length; clause++) {
            Check.due("in " + clause, fewer[clause], x.ofClause(clause, 7));
        }
        x.drop(1);
        Check.due("the same LITERALS, greater number", "2 3", x.ofClause(0, 7) + " " + x.ofClause(2, 7));
        x.drop(3);
        Check.due("none but it", "2 -1", x.ofClause(0, 7) + " " + x.ofClause(2, 7));
    }

    // ---- promises 26 to 28

    private static void promises26To28() {
        edge("P26", "Returns how many MODELS there are.", () -> {
            Check.due("all", "64 2 4096", new Hall().models() + " " + Halls.wide(1).models() + " "
                    + Halls.wide(12).models());
            Hall x = Halls.wide(12);
            x.atMost(4095, 0);
            Check.due("one", 1, x.models());
            x.add(5);
            Check.due("none", 0, x.models());
            x.drop(12);
            x.drop(4);
            Check.due("two", 2, x.models());
            Hall y = Halls.wide(12);
            y.add(1, 2, 3, 4);
            y.add(9, 10, 11, 12);
            Check.due("many", 15 * 16 * 15, y.models());
            Hall z = Halls.full();
            Check.due("LEARNED ones are no others", 48, z.models());
        });
        edge("P27", "Returns the MODEL with that number in ORDER, from 0 on: for each VARIABLE its true LITERAL, with a blank"
                + " between two; \"!\" if there are not so many.", () -> {
            Hall x = Halls.wide(3);
            x.add(1, 3);
            String[] due = {"-1 -2 3", "-1 2 3", "1 -2 -3", "1 -2 3", "1 2 -3", "1 2 3", "!", "!"};
            for (int nth = 0; nth < due.length; nth++) {
                Check.due("model(" + nth + ")", due[nth], x.model(nth));
            }
            Check.due("far", "! !", x.model(HIGH) + " " + x.model(4096));
            Hall y = Halls.wide(12);
            Check.due("behind the last one", "!", y.model(4096));
            Check.due("word by word", "-1 -2 -3 -4 -5 -6 7 8 9 10 11 12: -1 -2 -3 -4 -5 6 -7 -8 -9 -10 -11 -12",
                    y.model(63) + ": " + y.model(64));
            y.add(-6, -12);
            Check.due("word by word", "-1 -2 -3 -4 -5 6 -7 -8 -9 -10 -11 -12: -1 -2 -3 -4 -5 6 7 8 9 10 11 -12",
                    y.model(64) + ": " + y.model(95));
            Check.due("last", "1 2 3 4 5 6 7 8 9 10 11 -12: !", y.model(3071) + ": " + y.model(3072));
            Check.due("none", "! !", Halls.noModel().model(0) + " " + Halls.noModel().model(HIGH));
            Check.due("of one", "-1 1 !", Halls.wide(1).model(0) + " " + Halls.wide(1).model(1) + " "
                    + Halls.wide(1).model(2));
        });
        edge("P27", "Throws `IllegalArgumentException` if nth is below 0", () -> {
            for (int wrong : new int[] {-1, -2, LOW}) {
                Edges.refusedAlways("model(" + wrong + ")", ARGUMENT, x -> x.model(wrong));
            }
        });
        edge("P28", "Returns the LITERALS that each MODEL has, in their order, with a blank between two; \"\" if there are"
                + " none; \"!\" if there is no MODEL.", () -> {
            Check.due("none", "", Halls.wide(12).fixed());
            Hall x = Halls.wide(12);
            x.add(12);
            Check.due("the last one", "12", x.fixed());
            x.add(-1, -12);
            Check.due("two", "-1 12", x.fixed());
            x.atMost(2047, 0);
            Check.due("all", "-1 -2 -3 -4 -5 -6 -7 -8 -9 -10 -11 12", x.fixed());
            x.add(1);
            Check.due("no MODEL", "!", x.fixed());
            Hall y = Halls.wide(2);
            y.add(1, 2);
            y.add(-1, -2);
            Check.due("two MODELS without any", "", y.fixed());
            y.add(1);
            Check.due("one MODEL", "1 -2", y.fixed());
            Check.due("of one VARIABLE", "", Halls.wide(1).fixed());
        });
    }

    // ---- promises 29 and 30

    private static void promises29And30() {
        edge("P29", "`isModels`: whether how many MODELS it has, otherwise the set of its VARIABLES", () -> {
            Hall x = Halls.wide(12);
            x.add(12, 11);
            x.add(1);
            x.add(5);
            x.add(-5);
            Check.due("the first one", "1 1", x.part(0, false) + " " + x.part(0, true));
            Check.due("without a MODEL", "16 0", x.part(1, false) + " " + x.part(1, true));
            Check.due("the last one", "3072 3", x.part(2, false) + " " + x.part(2, true));
            Hall y = Halls.wide(12);
            y.add(1, 2, 3, 4);
            y.add(4, 5, 6, 7);
            y.add(7, 8, 9, 10);
            y.add(10, 11, 12);
            Check.due("all", "4095 true", y.part(0, false) + " " + (y.part(0, true) == y.models()));
        });
        edge("P29", "Throws `IndexOutOfBoundsException` if there is no such PART", () -> {
            for (int wrong : new int[] {-1, 6, 12, LOW, HIGH}) {
                Edges.refusedAlways("part(" + wrong + ")", INDEX, x -> x.part(wrong, true));
                Edges.refusedAlways("part(" + wrong + ")", INDEX, x -> x.part(wrong, false));
            }
            Edges.refused("none", INDEX, Hall::new, x -> x.part(0, false));
            Edges.refused("none but ALWAYS TRUE ones", INDEX, () -> new Hall().fill(3), x -> x.part(0, false));
            Edges.refused("behind the last one", INDEX, Halls::parts, x -> x.part(2, false));
            Edges.refused("behind the last one", INDEX, Halls::searching, x -> x.part(2, true));
        });
        edge("P30", "`what`: how many told CLAUSES 0 have v, 1 have -v (ALWAYS TRUE ones, too)", () -> {
            Hall x = Halls.wide(12);
            Check.due("none", "0 0", x.ofVariable(12, 0) + " " + x.ofVariable(12, 1));
            x.fill(28);
            x.add(-12, 1);
            x.add(12, -12);
            Check.due("twenty-nine", "29 28 0 0", x.ofVariable(1, 0) + " " + x.ofVariable(1, 1) + " " + x.ofVariable(2, 0)
                    + " " + x.ofVariable(2, 1));
            Check.due("the last one", "1 2", x.ofVariable(12, 0) + " " + x.ofVariable(12, 1));
            Hall y = Halls.searching();
            Check.due("LEARNED ones are not told", "0 2 0 2", y.ofVariable(1, 0) + " " + y.ofVariable(1, 1) + " "
                    + y.ofVariable(3, 0) + " " + y.ofVariable(3, 1));
        });
        edge("P30", "2 how many pairs there are of one that has v and one that has -v (neither ALWAYS TRUE), of which the"
                + " JOINING on it is not ALWAYS TRUE", () -> {
            Hall x = new Hall();
            Check.due("none", 0, x.ofVariable(1, 2));
            x.add(1);
            x.add(1, -1);
            Check.due("ALWAYS TRUE ones are none", 0, x.ofVariable(1, 2));
            x.add(-1);
            Check.due("one", 1, x.ofVariable(1, 2));
            x.add(-1);
            x.add(1, 2);
            Check.due("four", 4, x.ofVariable(1, 2));
            x.add(-1, -2);
            Check.due("two more, one is ALWAYS TRUE", 5, x.ofVariable(1, 2));
            Check.due("of 2", 0, x.ofVariable(2, 2));
            Hall y = Halls.wide(12);
            for (int n = 0; n < 15; n++) {
                y.add(12, 3);
                y.add(-12, 3);
            }
            Check.due("225", "225 0", y.ofVariable(12, 2) + " " + y.ofVariable(3, 2));
            Hall w = new Hall();
            w.add(-6, 1);
            w.add(6, 2);
            w.add(6, -1);
            Check.due("the first one has -v", "1 0 0", w.ofVariable(6, 2) + " " + w.ofVariable(2, 2) + " "
                    + w.ofVariable(1, 2));
            Hall z = Halls.searching();
            Check.due("LEARNED ones are not told", "0 0 0 1", z.ofVariable(1, 2) + " " + z.ofVariable(3, 2) + " "
                    + z.ofVariable(2, 2) + " " + z.ofVariable(4, 2));
        });
        edge("P30", "3 1 if it stands in none, or one way alone (ALWAYS TRUE ones aside), otherwise 0", () -> {
            Hall x = Halls.wide(12);
            Check.due("none", "1 1", x.ofVariable(1, 3) + " " + x.ofVariable(12, 3));
            x.add(12, 1, -1);
            x.add(12);
            Check.due("one way", "1 1", x.ofVariable(1, 3) + " " + x.ofVariable(12, 3));
            x.add(-12, 2, -2);
            Check.due("one way, ALWAYS TRUE ones aside", "1 1", x.ofVariable(2, 3) + " " + x.ofVariable(12, 3));
            x.add(-12, 2);
            Check.due("both ways", "1 0", x.ofVariable(2, 3) + " " + x.ofVariable(12, 3));
            Check.due("LEARNED ones aside", "0 2 0 1", ofVariable(Halls.searching(), 1));
            for (int v = 1; v <= 12; v++) {
                Hall y = Halls.wide(12);
                y.add(v);
                Check.due("v alone", 1, y.ofVariable(v, 3));
                y.add(-v);
                y.add(v % 12 + 1);
                Check.due("v and -v, then another one", "0 1", y.ofVariable(v, 3) + " " + y.ofVariable(v % 12 + 1, 3));
                y.drop(0);
                Check.due("-v alone", 1, y.ofVariable(v, 3));
            }
        });
        edge("P30", "Throws `IllegalArgumentException` if variable is not 1 to WIDTH, or what not 0 to 3", () -> {
            for (int wrong : new int[] {0, 7, -1, -6, 12, 13, LOW, HIGH}) {
                Edges.refusedAlways("variable " + wrong, ARGUMENT, x -> x.ofVariable(wrong, 0));
            }
            for (int wrong : new int[] {-1, 4, LOW, HIGH}) {
                Edges.refusedAlways("what " + wrong, ARGUMENT, x -> x.ofVariable(1, wrong));
                Edges.refusedAlways("what " + wrong, ARGUMENT, x -> x.ofVariable(6, wrong));
            }
            Edges.refused("thirteen", ARGUMENT, () -> Halls.wide(12), x -> x.ofVariable(13, 0));
            Edges.refused("two of one", ARGUMENT, () -> Halls.wide(1), x -> x.ofVariable(2, 3));
        });
    }

    // ---- promises 31 and 32

    private static void wrongSets(String name, SetCall call) {
        int[][] wrong = {{-1, 0}, {0, -1}, {64, 0}, {0, 64}, {4096, 0}, {0, 4096}, {LOW, 0}, {0, LOW}, {HIGH, 0}, {0, HIGH},
            {1, 1}, {32, 32}, {3, 6}, {63, 32}, {1, 63}, {-1, -1}};
        for (int[] sets : wrong) {
            Edges.refusedAlways(name + "(" + sets[0] + ", " + sets[1] + ")", ARGUMENT, x -> call.on(x, sets[0], sets[1]));
        }
        Edges.refused(name + " of twelve", ARGUMENT, () -> Halls.wide(12), x -> call.on(x, 4096, 0));
        Edges.refused(name + " of twelve", ARGUMENT, () -> Halls.wide(12), x -> call.on(x, 2048, 2048));
        Edges.refused(name + " of one", ARGUMENT, () -> Halls.wide(1), x -> call.on(x, 2, 0));
        Edges.refused(name + " of one", ARGUMENT, () -> Halls.wide(1), x -> call.on(x, 1, 1));
    }

    private interface SetCall {
        Object on(Hall x, int yes, int no);
    }

    private static void promises31And32() {
        edge("P31", "Returns how many MODELS have all of that.", () -> {
            Hall x = Halls.parts();
            Check.due("nothing is assumed", 24, x.assume(0, 0));
            Check.due("one", "18 6 12", x.assume(1, 0) + " " + x.assume(0, 1) + " " + x.assume(0, 32));
            Check.due("all", "1 0 1 0 1", x.assume(63, 0) + " " + x.assume(0, 63) + " " + x.assume(1, 62) + " " + x.assume(2, 61) + " "
                    + x.assume(1 + 16, 2 + 4 + 8 + 32));
            Check.due("without a MODEL", 0, Halls.noModel().assume(0, 0));
            Hall y = Halls.wide(12);
            Check.due("of twelve", "4096 2048 1 1", y.assume(0, 0) + " " + y.assume(2048, 0) + " " + y.assume(4095, 0)
                    + " " + y.assume(0, 4095));
        });
        edge("P31", "Throws `IllegalArgumentException` if yes or no is not a set of VARIABLES, or they have one in common",
                () -> wrongSets("assume", Hall::assume));
        edge("P32", "Returns of the LITERALS that are assumed so, a smallest set with which there is no MODEL: of several by"
                + " the first LITERAL, in their order, then the next one, and so on; with a blank between two; \"-\" if there"
                + " is no MODEL at all; \"\" if there is one with all of them.", EdgesOfModels::leastThatFails);
        edge("P32", "Throws `IllegalArgumentException` if yes or no is not a set of VARIABLES, they have one in common, or"
                + " there are more than 8 in both", () -> {
            wrongSets("failing", Hall::failing);
            int[][] nine = {{0b111111111, 0}, {0, 0b111111111}, {0b11111, 0b1111 << 8}, {1, 0b11111111 << 4}, {4095, 0},
                {0, 4095}, {63, 63 << 6}};
            for (int[] sets : nine) {
                Edges.refused(sets[0] + ", " + sets[1], ARGUMENT, () -> Halls.wide(12), x -> x.failing(sets[0], sets[1]));
                Edges.refused("without a MODEL", ARGUMENT, () -> chain(5), x -> x.failing(sets[0], sets[1]));
            }
            int[][] eight = {{0b11111111, 0}, {0, 0b11111111 << 4}, {0b1111, 0b1111 << 8}, {1, 0b1111111 << 5}};
            for (int[] sets : eight) {
                Check.due("eight", "", Halls.wide(12).failing(sets[0], sets[1]));
            }
        });
    }

    private static void leastThatFails() {
        Hall x = Halls.wide(12);
        Check.due("nothing is assumed", "", x.failing(0, 0));
        x.add(-1, -2, -3, -4);
        x.add(-5, -6, -7, -8);
        Check.due("one with all of them", "", x.failing(0b01110111, 0));
        Check.due("the first of two", "1 2 3 4", x.failing(255, 0));
        Check.due("of eight", "5 6 7 8", x.failing(0b11110000, 0b111100000000));
        x.add(-2, -7, 9);
        x.add(-3, -6, -9);
        Check.due("as many, from others on", "1 2 3 4", x.failing(255, 0));
        Check.due("of three by the first one", "2 7 -9", x.failing(0b11111110, 1 << 8));
        x.add(-2, 10, -8);
        Check.due("then by the next one", "2 7 -9", x.failing(0b11001110, 0b1100000000));
        Check.due("then by the last one", "2 8 -10", x.failing(0b10001110, 0b1100000000));
        x.add(8, 12);
        x.add(8, -12);
        Check.due("one of the last", "-8", x.failing(0b1001111, 1 << 7));
        x.add(-1);
        Check.due("the first of two", "1", x.failing(0b1001111, 1 << 7));
        Check.due("one with nothing", "", x.failing(0, 0));
        Check.due("one MODEL", "-3 \"\" -2", oneModel().failing(0, 4) + " \"" + oneModel().failing(63, 0) + "\" "
                + oneModel().failing(1, 62));
        x.add(1);
        Check.due("no MODEL at all", "- -", x.failing(0, 0) + " " + x.failing(255, 0));
        Hall y = Halls.wide(1);
        y.add(-1);
        Check.due("of one VARIABLE", "1 ", y.failing(1, 0) + " " + y.failing(0, 1));
    }

    // ---- promise 33

    private static void promise33() {
        edge("P33", "Returns what follows: LITERALS become true, those that are assumed first, in their order, then, as long"
                + " as there is a told CLAUSE of which all LITERALS but one are false, and that one is neither, that one (of"
                + " the smallest such CLAUSE); till a told CLAUSE has none but false ones: \"!\", otherwise the LITERALS that"
                + " became true by CLAUSES, in that order, with a blank between two; \"\" without any.", () -> {
            Hall x = Halls.wide(12);
            Check.due("nothing", "\"\" \"\" \"\"", "\"" + x.follows(0, 0) + "\" \"" + x.follows(4095, 0) + "\" \""
                    + x.follows(0, 4095) + "\"");
            for (int v = 11; v >= 1; v--) {
                x.add(-v, v + 1);
            }
            Check.due("all the others", "2 3 4 5 6 7 8 9 10 11 12", x.follows(1, 0));
            Check.due("all the others", "-11 -10 -9 -8 -7 -6 -5 -4 -3 -2 -1", x.follows(0, 2048));
            Check.due("nothing without anything", "", x.follows(0, 0));
            Check.due("from both", "9 10 11 12 -4 -3 -2 -1", x.follows(128, 16));
            Check.due("against", "! !", x.follows(1, 2048) + " " + x.follows(1, 2));
            Hall v = chain(13);
            Check.due("against all twelve that follow", "!", v.follows(0, 0));
            v.drop(12);
            Check.due("all twelve follow", "1 2 3 4 5 6 7 8 9 10 11 12", v.follows(0, 0));
            Check.due("all are assumed", "\"\" !", "\"" + x.follows(4095, 0) + "\" " + x.follows(2047, 2048));
            Hall y = Halls.wide(3);
            y.add(-3, 2);
            y.add(3);
            y.add(1, -1, -2);
            Check.due("the smallest CLAUSE, each time", "3 2", y.follows(0, 0));
            y.add(-2, -3);
            Check.due("against nothing", "!", y.follows(0, 0));
            Check.due("what is assumed does not follow", "!", y.follows(4, 0));
            Hall z = new Hall();
            z.add();
            Check.due("an empty one", "! !", z.follows(0, 0) + " " + z.follows(63, 0));
            Check.due("LEARNED ones are not told", "", Halls.searching().follows(1, 0));
            Hall w = Halls.wide(6).type("a=b=e=f");
            w.sentence();
            w.retype("!c=d=e=f").sentence();
            w.run(60);
            Check.due("LEARNED ones", "-1 -2 -3 -4 -5, -1 -2 -3 -4", w.clauses(16, 2));
            Check.due("that are FALSE are not told", "", w.follows(15, 0));
        });
        edge("P33", "Throws `IllegalArgumentException` if yes or no is not a set of VARIABLES, or they have one in common",
                () -> wrongSets("follows", Hall::follows));
    }

    // ---- promises 34 to 36

    private static void promises34To36() {
        edge("P34", "Returns THE CORE: the numbers of its CLAUSES, with a blank between two; \"!\" if there is a MODEL.", () -> {
            Check.due("a MODEL", "! !", new Hall().core() + " " + Halls.parts().core());
            Check.due("one MODEL", "1: !", oneModel().models() + ": " + oneModel().core());
            Check.due("all", "0 1 2 3 4 5 6", chain(7).core());
            Hall x = new Hall();
            x.add(1);
            x.drop(0);
            x.add();
            Check.due("the empty one", "1", x.core());
            Hall y = Halls.pigeons();
            Check.due("twenty-two", "0 1 2 3 4 5 6 7 8 9 10 11 12 13 14 15 16 17 18 19 20 21", y.core());
            y.drop(3);
            Check.due("a MODEL", "!", y.core());
            Hall z = Halls.answeredNo();
            Check.due("told ones alone", "0 1 2 3", z.core());
        });
        edge("P35", "Returns LEAST CORE; NONE, if there is a MODEL, or it has more than 5.", () -> {
            Check.due("a MODEL", "-1 -1", new Hall().leastCore() + " " + Halls.parts().leastCore());
            Check.due("one MODEL", -1, oneModel().leastCore());
            Check.due("five, six, twelve", "5 -1 -1", chain(5).leastCore() + " " + chain(6).leastCore() + " "
                    + chain(12).leastCore());
            Check.due("22", -1, Halls.pigeons().leastCore());
            Hall x = new Hall();
            x.add();
            Check.due("one", 1, x.leastCore());
            Hall y = Halls.wide(1);
            y.add(1);
            y.add(-1);
            Check.due("two", 2, y.leastCore());
            Hall z = chain(5);
            z.drop(2);
            Check.due("a MODEL again", -1, z.leastCore());
        });
        edge("P36", "`isModel`: whether the place of the first ASSIGNMENT in ORDER, from 0 on, that has it, otherwise the"
                + " greatest sum of WEIGHTS of told CLAUSES that are true by one ASSIGNMENT", () -> {
            Check.due("without CLAUSES", "0 0", new Hall().best(false) + " " + new Hall().best(true));
            Hall x = Halls.wide(12);
            x.add();
            x.weigh(0, 9);
            Check.due("the empty one", "0 0", x.best(false) + " " + x.best(true));
            for (int v = 1; v <= 12; v++) {
                x.tell(v, 0, 0, 0, 9);
            }
            Check.due("the last place", "108 4095", x.best(false) + " " + x.best(true));
            for (int v = 1; v <= 12; v++) {
                x.tell(-v, 0, 0, 0, 9);
            }
            Check.due("the first of all", "108 0", x.best(false) + " " + x.best(true));
            x.weigh(12, 8);
            Check.due("-12 has more", "108 0", x.best(false) + " " + x.best(true));
            x.weigh(24, 7);
            Check.due("12 has more", "107 1", x.best(false) + " " + x.best(true));
            x.weigh(13, 0);
            Check.due("1 has more", "107 2049", x.best(false) + " " + x.best(true));
            Hall y = Halls.wide(12);
            for (int n = 0; n < 30; n++) {
                y.tell(12, -12, 0, 0, 9);
            }
            Check.due("the greatest", "270 0", y.best(false) + " " + y.best(true));
            Hall z = Halls.wide(2);
            z.tell(1, 2, 0, 0, 0);
            Check.due("WEIGHT 0", "0 0", z.best(false) + " " + z.best(true));
        });
    }

    // ---- promises 37 and 38

    private static void promise37() {
        edge("P37", "Returns whether all is SOUND", () -> {
            for (Edges.Recipe state : Halls.states()) {
                Check.due("state", true, state.make().isSound());
            }
            Hall x = Halls.pigeons();
            for (int n = 0; n < 81; n++) {
                x.step();
                Check.due("step " + n, true, x.isSound());
            }
        });
        edge("P37", "with YES, all CLAUSES are TRUE; with NO, there is no MODEL, and the last LINE is a LAST one", () -> {
            Hall x = Halls.answeredYes();
            Check.due("YES", true, x.isSound());
            x.weigh(0, 9);
            x.forget(0);
            Check.due("YES, with one forgotten", true, x.isSound());
            Hall y = Halls.answeredNo();
            Check.due("NO", true, y.isSound());
            y.forget(0);
            y.anew();
            Check.due("NO is over", true, y.isSound());
            y.run(60);
            Check.due("NO again", "2 true", y.house(4) + " " + y.isSound());
            Check.due("an empty hall with YES", true, emptyYes().isSound());
        });
        edge("P37", "each LEARNED clause that is there is true in each MODEL; each LITERAL on the TRAIL that is no CHOICE is in"
                + " its REASON, all others of that are FALSE by what came ahead", () -> {
            Forty f = new Forty(8, 1, 2, 3, 4, 5, 6, 7).pairs(36).ones(3, 4, 6, 7);
            Check.due("forty LEARNED ones", "40 true", f.hall.house(2) + " " + f.hall.isSound());
            f.untilLearned(1, 2, 5, 8);
            Check.due("with a LEARNED REASON", "true 1", f.hall.isSound() + " " + f.hall.ofClause(28, 6));
            f.hall.add(-9);
            Check.due("a LEARNED one and fewer MODELS", "true 40", f.hall.isSound() + " " + f.hall.house(2));
            Hall x = Halls.searching();
            x.add(6, 5);
            x.add(1);
            for (int n = 0; n < 12; n++) {
                Check.due("TRAIL " + x.trailed(), true, x.isSound());
                x.step();
            }
        });
        edge("P37", "models() is, without an empty CLAUSE, the product of those of the PARTS, times 2 for each VARIABLE of"
                + " none", () -> {
            Hall x = Halls.wide(12);
            x.add(1);
            x.add();
            Check.due("with an empty CLAUSE", "true 0 1 11", x.isSound() + " " + x.models() + " " + x.part(0, true) + " "
                    + x.house(15));
            x.drop(1);
            Check.due("without", "true 2048", x.isSound() + " " + x.models());
            Check.due("no PART", true, Halls.wide(12).fill(30).isSound());
            Hall y = Halls.wide(12);
            y.atMost(4095, 0);
            Check.due("twelve PARTS", true, y.isSound());
        });
        edge("P37", "if there is no MODEL, THE CORE has none, and without any one of its CLAUSES it has one.", () -> {
            Check.due("a CORE of one", true, emptyNo().isSound());
            for (int clauses = 2; clauses <= 12; clauses++) {
                Check.due("a CORE of " + clauses, true, chain(clauses).isSound());
            }
            Check.due("a CORE of 22", true, Halls.pigeons().isSound());
        });
    }

    private static Hall emptyYes() {
        Hall x = Halls.wide(1);
        x.run(60);
        return x;
    }

    private static Hall emptyNo() {
        Hall x = new Hall();
        x.add();
        x.run(60);
        return x;
    }

    private static long wrapped(long... numbers) {
        BigInteger d = BigInteger.valueOf(7057);
        for (long number : numbers) {
            d = d.multiply(BigInteger.valueOf(31)).add(BigInteger.valueOf(number));
        }
        return d.longValue();
    }

    private static void promise38() {
        edge("P38", "A number d starts with 7057; for each of the following numbers v, d becomes d * 31 + v, which wraps"
                + " around as a 64-bit integer", () -> {
            Check.due("a new hall of WIDTH 1", wrapped(1, 0, 0, 0, 0, 0, 0, 0, 0, 0, 0, 0, 0, 0, 0, 1,
                    0, 2, 2, 0, 0, 0, 0, 1, 1, 0, 0, 1, 0, 0, 1), Halls.wide(1).digest());
            Check.due("a new hall", wrapped(6, 0, 0, 0, 0, 0, 0, 0, 0, 0, 0, 0, 0, 0, 0, 6, 0, 64, 17, 0,
                    0, 0, 0, 1, 0, 0, 0, 1, 0, 0, 0, 1, 0, 0, 0, 1, 0, 0, 0, 1, 0, 0, 0, 1,
                    32, 0, 0, 1, 0, 0, 1), new Hall().digest());
        });
        edge("P38", "house() of 0 to 15", () -> {
            Hall x = Halls.searching();
            x.clear();
            x.add();
            Check.due("all sixteen", wrapped(6, 1, 0, 6, 0, 0, 0, 0, 1, 2, 1, 0, 2, 5, 1, 6,
                    5, 0, 0, 1, 0, 0, 1, 0, -1, 1, 2, 0, 1, 1,
                    0, 0, 0, 1, 0, 0, 0, 1, 0, 0, 0, 1, 0, 0, 0, 1, 0, 0, 0, 1, 0, 0, 0, 1, 0, 1, 1, 1, 0, 0, 1), x.digest());
        });
        edge("P38", "fault(); models(); the length of model() of 0; the length of fixed()", () -> {
            String[] texts = {"", "a", "a+", "a)", "a+".repeat(20)};
            int[] faults = {0, -1, 2, 1, 40};
            for (int n = 0; n < texts.length; n++) {
                Hall x = Halls.wide(1).type(texts[n]);
                x.add(-1);
                Check.due("\"" + texts[n] + "\"", wrapped(1, 1, 0, 1, 0, 0, 0, 0, 0, 0, 1, 1, texts[n].length(), 0, 0, 0,
                        0, 1, 0, 1, 0, 0, 2, 0, -1, 2, faults[n], 1, 2, 2, 1, 1, 0, 1, 0, 1, 0, 1, 1, 1, 1, 0, 1), x.digest());
            }
        });
        edge("P38", "CLAUSE by CLAUSE that is there, told and LEARNED: its number, ofClause() of 0 to 7, the length of"
                + " clause(); place by place of the TRAIL trail() of 0 to 2; LINE by LINE of the last 8 (or as many as there"
                + " are, the last one first) the length of line()", () -> {
            Hall x = Halls.wide(1);
            x.tell(1, 0, 0, 0, 3);
            x.tell(-1, 0, 0, 0, 4);
            x.run(60);
            Check.due("a hall with NO", wrapped(1, 2, 0, 2, 2, 0, 1, 1, 0, 0, 7, 1, 0, 0, 1, 0,
                    0, 1, 0, 3, 0, 0, 0, 1, -1, 1, 1, 1, 0, 4, 0, 0, 1, 0, -1, 2, 1, 0, 0, 6,
                    0, 0, 1, 1, 0, 1, 1, 1, 1, 0, 0, 1, 1, 3, 4, 0, 1), x.digest());
            Hall y = Halls.jump();
            y.run(60);
            Check.due("a LEARNED one, and a CHOICE", wrapped(4, 2, 1, 3, 1, 3, 4, 1, 0, 0, 2, 1, 0, 5, 1, 1,
                    0, 3, 0, 1, 0, 0, 0, 0, -1, 7, 1, 3, 0, 1, 0, 0, 0, 0, -1, 8, 2, 2, 1, 0, 0, 0, 0, 1, -1, 5,
                    1, 1, -1, -3, 1, 2, 2, 2, -1, 4, 3, -1, 5,
                    0, 12, 11, 0, 6, 13, 0, 2, 0, 1, 0, 0, 0, 1, 0, 2, 0, 1, 1, 1, 1, 0,
                    4, 0, 0, 1, 2, 0, 1), y.digest());
        });
        edge("P38", "LINE by LINE of the last 8 (or as many as there are, the last one first) the length of line()", () -> {
            for (int lines = 0; lines <= 20; lines++) {
                Hall x = Halls.noModel();
                for (int n = 1; n < lines; n++) {
                    x.anew();
                    x.run(60);
                }
                Check.due(lines + " LINES", byFace(x), x.digest());
            }
            Hall y = Halls.pigeons();
            y.run(60);
            y.run(60);
            Check.due("nine LINES, of unlike lengths", byFace(y), y.digest());
            Check.due("nine", 9, y.house(7));
        });
        edge("P38", "PART by PART part(), MODELS, then VARIABLES; VARIABLE by VARIABLE ofVariable() of 0 to 3; assume() by 1"
                + " and 0; the length of failing() by 1 and 0; the length of follows() by 1 and 0; the length of core();"
                + " best() WEIGHT, then ASSIGNMENT; 1 if isSound(), otherwise 0.", () -> {
            Hall[] halls = {Halls.parts(), Halls.searching(), Halls.answeredYes(), Halls.answeredNo(), chain(5), chain(12),
                Halls.wide(12), assumedFails()};
            for (Hall x : halls) {
                Check.due("by what is asked", byFace(x), x.digest());
                Check.due("once more", x.digest(), x.digest());
            }
        });
    }

    /** With 1 there is no MODEL, and much follows of it. */
    private static Hall assumedFails() {
        Hall x = Halls.wide(12);
        x.add(-1, 12);
        x.add(-1, -11);
        x.add(-1, -12, 11);
        x.add(2, 10);
        x.weigh(2, 9);
        return x;
    }

    /** The digest once more, of what the other methods answer. */
    static long byFace(Hall x) {
        long d = 7057;
        for (int what = 0; what <= 15; what++) {
            d = d * 31 + x.house(what);
        }
        int ever = x.house(3);
        for (int clause = 0; clause < ever; clause++) {
            if (!x.hasClause(clause)) {
                continue;
            }
            d = d * 31 + clause;
            for (int what = 0; what <= 7; what++) {
                d = d * 31 + x.ofClause(clause, what);
            }
            d = d * 31 + x.clause(clause).length();
        }
        for (int place = 0; place < x.house(6); place++) {
            d = ((d * 31 + x.trail(place, 0)) * 31 + x.trail(place, 1)) * 31 + x.trail(place, 2);
        }
        int lines = x.house(7);
        for (int nth = lines - 1; nth >= 0 && nth >= lines - 8; nth--) {
            d = d * 31 + x.line(nth).length();
        }
        d = ((d * 31 + x.fault()) * 31 + x.models()) * 31 + x.model(0).length();
        d = d * 31 + x.fixed().length();
        int parts = x.house(11);
        for (int part = 0; part < parts; part++) {
            d = (d * 31 + x.part(part, true)) * 31 + x.part(part, false);
        }
        int width = x.house(0);
        for (int v = 1; v <= width; v++) {
            for (int what = 0; what <= 3; what++) {
                d = d * 31 + x.ofVariable(v, what);
            }
        }
        d = ((d * 31 + x.assume(1, 0)) * 31 + x.failing(1, 0).length()) * 31 + x.follows(1, 0).length();
        d = ((d * 31 + x.core().length()) * 31 + x.best(false)) * 31 + x.best(true);
        return d * 31 + (x.isSound() ? 1 : 0);
    }
}
