/** The document's sentences on CLAUSES: what it is, the description, part 1, promises 1 to 6 and 9. */
final class EdgesOfClauses {
    private static final Class<?> ARGUMENT = Edges.ARGUMENT;
    private static final Class<?> STATE = Edges.STATE;
    private static final Class<?> INDEX = Edges.INDEX;
    private static final int LOW = Edges.LOW;
    private static final int HIGH = Edges.HIGH;

    private EdgesOfClauses() {
    }

    static void run() {
        whatItIs();
        description();
        part1();
        promises1And2();
        promise3();
        promises4And5();
        promise6();
        promise9();
        notPromised();
    }

    private static void edge(String section, String sentence, Edges.Test test) {
        Edges.edge(section, sentence, test);
    }

    // ---- what it is

    private static void whatItIs() {
        edge("W", "An object is used for at most 512 calls after it has been made; what later calls answer is free.", () -> {
            Hall x = new Hall();
            for (int n = 1; n <= 512; n++) {
                Check.due("call " + n, n, x.knock());
            }
            Hall y = Halls.noModel();
            for (int n = 0; n < 252; n++) {
                y.anew();
                y.run(60);
            }
            Check.due("call 511", 253, y.house(7));
            Check.due("call 512", "-1 3 2 4", y.line(252));
            Check.due("calls", 512, y.calls());
        });
    }

    // ---- description

    private static void description() {
        edge("D", "All numbers are whole; NONE is -1.", () -> {
            Hall x = new Hall();
            Check.due("no SENTENCE", -1, x.sentence());
            Check.due("no LEAST CORE", -1, x.leastCore());
            Check.due("nothing typed", 0, x.code(-1));
            Check.due("no FAULT", -1, x.type("a").fault());
            x.add(1);
            Check.due("nothing is IN it", -1, x.ofClause(0, 7));
            x.run(2);
            Check.due("no REASON", "0 -1", x.trail(0, 2) + " " + x.trail(1, 2));
            x.add(-1);
            x.run(60);
            Check.due("no clause came", "-1 1 0", x.line(0));
        });
        edge("D", "A set is the sum of 2^k for the numbers k in it.", () -> {
            Hall x = Halls.wide(12);
            Check.due("the empty set is 0", 4096, x.assume(0, 0));
            Check.due("all is the sum", 1, x.assume(4095, 0));
            Check.due("all is the sum", 1, x.assume(0b010101010101, 0b101010101010));
            x.add(1, 12, 7);
            Check.due("set", 1 + 64 + 2048, x.part(0, false));
        });
        edge("D", "X by X is by rising numbers; where one of several is taken and nothing else is said, it is that"
                + " with the smallest number.", EdgesOfClauses::smallestNumbers);
        edge("D", "A method that throws an exception changes nothing.", EdgesOfClauses::refusedCalls);
        edge("D", "If several exceptions apply, the one that is named first is thrown.", () -> {
            Edges.refused("wide", ARGUMENT, Halls::full, x -> x.wide(13));
            Edges.refused("wide", ARGUMENT, Halls::full, x -> x.wide(0));
            Edges.refused("tell literal", ARGUMENT, Halls::full, x -> x.tell(0, 0, 0, -7, 1));
            Edges.refused("tell weight", ARGUMENT, Halls::full, x -> x.tell(1, 0, 0, 0, 10));
            Edges.refused("weigh", INDEX, Halls::full, x -> x.weigh(31, 10));
            Edges.refused("weigh a LEARNED one", INDEX, Halls::full, x -> x.weigh(30, -1));
            Edges.refused("atMost set", ARGUMENT, Halls::full, x -> x.atMost(64, 0));
            Edges.refused("atMost many", ARGUMENT, Halls::full, x -> x.atMost(63, 4));
            Edges.refused("say", ARGUMENT, Halls::full, x -> x.say(0, 0, 0, 0, 0, 21));
            Edges.refused("ofClause", INDEX, Halls::full, x -> x.ofClause(31, 8));
            Edges.refused("trail", INDEX, Halls::full, x -> x.trail(12, 3));
            Edges.refused("trail", INDEX, Halls::full, x -> x.trail(-1, -1));
        });
    }

    private static void smallestNumbers() {
        Hall x = Halls.wide(3);
        x.add(-1, 2);
        x.add(-1, -2);
        x.add(-1, -2);
        x.run(3);
        Check.due("of two FALSE ones", "3 1 0", x.line(0));
        Hall y = new Hall();
        y.add(5, 6);
        y.add(3);
        y.add(2);
        y.run(2);
        Check.due("of two UNIT ones", "3 2", y.trailed());
        y.step();
        Check.due("of three VARIABLES", "3 2 | 1", y.trailed());
        y.add(-3, 3, 2);
        Check.due("of two that are IN it", 1, ofAdded(y, 3, 2));
        Hall z = new Hall();
        z.add();
        z.add();
        z.step();
        Check.due("of two empty ones", "-1 0", z.line(0));
        z.add(2);
        Check.due("CLAUSE by CLAUSE", "1", z.core());
        Check.due("follows by smallest CLAUSE", "3 2", withoutEmpty().follows(0, 0));
    }

    private static int ofAdded(Hall x, int a, int b) {
        return x.ofClause(x.add(a, b), 7);
    }

    private static Hall withoutEmpty() {
        Hall x = new Hall();
        x.add(3);
        x.add(2);
        return x;
    }

    /** Each method that can refuse, called wrongly in each state of a hall. */
    private static void refusedCalls() {
        Edges.refusedAlways("wide", ARGUMENT, x -> x.wide(13));
        Edges.refusedAlways("tell", ARGUMENT, x -> x.tell(1, 2, 3, 7, 1));
        Edges.refusedAlways("drop", INDEX, x -> x.drop(99));
        Edges.refusedAlways("weigh", INDEX, x -> x.weigh(99, 1));
        Edges.refusedAlways("atMost", ARGUMENT, x -> x.atMost(63, 4));
        Edges.refusedAlways("say", ARGUMENT, x -> x.say(20, 19, 0, 1, 2, 21));
        Edges.refusedAlways("score", ARGUMENT, x -> x.score(6, 100));
        Edges.refusedAlways("sign", ARGUMENT, x -> x.sign(7, false));
        Edges.refusedAlways("run", ARGUMENT, x -> x.run(61));
        Edges.refusedAlways("forget", ARGUMENT, x -> x.forget(-1));
        Edges.refusedAlways("clause", INDEX, x -> x.clause(99));
        Edges.refusedAlways("ofClause", INDEX, x -> x.ofClause(99, 0));
        Edges.refusedAlways("trail", INDEX, x -> x.trail(6, 0));
        Edges.refusedAlways("line", ARGUMENT, x -> x.line(-1));
        Edges.refusedAlways("house", ARGUMENT, x -> x.house(16));
        Edges.refusedAlways("model", ARGUMENT, x -> x.model(-1));
        Edges.refusedAlways("part", INDEX, x -> x.part(6, true));
        Edges.refusedAlways("ofVariable", ARGUMENT, x -> x.ofVariable(7, 0));
        Edges.refusedAlways("assume", ARGUMENT, x -> x.assume(3, 1));
        Edges.refusedAlways("failing", ARGUMENT, x -> x.failing(3, 1));
        Edges.refusedAlways("follows", ARGUMENT, x -> x.follows(3, 1));
        Edges.refused("sentence", STATE, EdgesOfSentences::thirtyAndSentence, Hall::sentence);
        Edges.refused("wide", STATE, Halls::searching, x -> x.wide(6));
        Edges.refused("tell", STATE, Halls::full, x -> x.add(1));
        Edges.refused("atMost", STATE, Halls::full, x -> x.atMost(1, 0));
        Edges.refused("say", STATE, Halls::full, x -> x.say(19, 0, 0, 20, 0, 0));
        Edges.refused("weigh", ARGUMENT, Halls::searching, x -> x.weigh(0, 10));
        Edges.refused("ofClause", ARGUMENT, Halls::searching, x -> x.ofClause(0, 8));
        Edges.refused("trail", ARGUMENT, Halls::searching, x -> x.trail(0, 3));
    }

    // ---- part 1

    private static void part1() {
        edge("S1", "VARIABLES are 1 to WIDTH (1 to 12; 6 at first).", () -> {
            for (int width = 1; width <= 12; width++) {
                int w = width;
                lastVariable(Halls.wide(w), w);
                behindLastVariable(() -> Halls.wide(w), w);
            }
            lastVariable(new Hall(), 6);
            behindLastVariable(Hall::new, 6);
        });
        edge("S1", "LITERALS: v and -v for each VARIABLE v; -v is the OPPOSITE of v, and v that of -v.", () -> {
            Hall x = Halls.wide(12);
            Check.due("tell", 0, x.add(12, 1, -1, -12));
            Edges.refused("13", ARGUMENT, () -> Halls.wide(12), y -> y.add(13));
            Edges.refused("-13", ARGUMENT, () -> Halls.wide(12), y -> y.add(-13));
            Edges.refused("-2 of one", ARGUMENT, () -> Halls.wide(1), y -> y.add(-2));
            Check.due("-1 of one", "-1", oneLiteral(-1));
            Check.due("1 of one", "1", oneLiteral(1));
        });
        edge("S1", "LITERALS are told in the order 1, -1, 2, -2, and so on.", () -> {
            Hall x = Halls.wide(12);
            x.add(-12, -1, 12, 1);
            x.add(-11, 10, -2, 9);
            Check.due("order", "1 -1 12 -12, -2 9 10 -11", x.clauses(0, 2));
        });
        edge("S1", "A set of VARIABLES has 2^(v - 1) for v.", () -> {
            for (int v = 1; v <= 12; v++) {
                Hall x = Halls.wide(12);
                x.add(v);
                Check.due("PART of " + v, 1 << (v - 1), x.part(0, false));
                Check.due("assumed " + v, "2048 0", x.assume(1 << (v - 1), 0) + " " + x.assume(0, 1 << (v - 1)));
                x.atMost(1 << (v - 1), 0);
                Check.due("none of " + v, "-" + v, x.clause(1));
            }
        });
        edge("S1", "CLAUSES are numbered from 0 as they come, told or LEARNED; a number is never used again.",
                EdgesOfClauses::numbers);
        edge("S1", "Each is a set of LITERALS (told: at most 4 unlike ones; it may be empty).",
                EdgesOfClauses::sizes);
        edge("S1", "It is ALWAYS TRUE, if it has a LITERAL and its OPPOSITE.", () -> {
            Hall x = Halls.wide(12);
            x.add(1, -1);
            x.add(-12, 3, 12, 4);
            x.add(1, -2, 3, -4);
            x.add();
            x.add(5);
            Check.due("ALWAYS TRUE", "1 1 0 0 0", x.ofClause(0, 4) + " " + x.ofClause(1, 4) + " " + x.ofClause(2, 4)
                    + " " + x.ofClause(3, 4) + " " + x.ofClause(4, 4));
        });
        edge("S1", "At most 30 told CLAUSES are there.", EdgesOfClauses::thirty);
        edge("S1", "A told one has a WEIGHT (0 to 9).", () -> {
            Hall x = new Hall();
            for (int weight = 0; weight <= 9; weight++) {
                Check.due("WEIGHT", weight, x.ofClause(x.tell(1, 0, 0, 0, weight), 2));
                Check.due("WEIGHT before", weight, x.weigh(weight, 9 - weight));
                Check.due("WEIGHT", 9 - weight, x.ofClause(weight, 2));
            }
            Check.due("together", 45, x.house(10));
        });
        edge("S1", "An ASSIGNMENT makes each VARIABLE true or false; v is true by it, if v is, -v, if v is not; a"
                + " CLAUSE, if one of its LITERALS is.", () -> {
            Hall x = Halls.wide(1);
            x.tell(1, 0, 0, 0, 3);
            Check.due("v", "1 1", x.model(0) + " " + x.models());
            Check.due("greatest", "3 1", x.best(false) + " " + x.best(true));
            x.drop(0);
            x.tell(-1, 0, 0, 0, 4);
            Check.due("-v", "-1 1", x.model(0) + " " + x.models());
            Check.due("greatest", "4 0", x.best(false) + " " + x.best(true));
            x.tell(0, 0, 0, 0, 9);
            Check.due("the empty CLAUSE has none", "! 0", x.model(0) + " " + x.models());
            Check.due("greatest", "4 0", x.best(false) + " " + x.best(true));
        });
        edge("S1", "A MODEL is an ASSIGNMENT by which all told CLAUSES are true.", () -> {
            for (int width = 1; width <= 12; width++) {
                Hall x = Halls.wide(width);
                Check.due("without CLAUSES", 1 << width, x.models());
                x.add(width);
                Check.due("with one", 1 << (width - 1), x.models());
                x.add(-width);
                Check.due("with two", 0, x.models());
            }
            Hall y = Halls.wide(12).fill(30);
            Check.due("thirty that are ALWAYS TRUE", 4096, y.models());
            y.drop(29);
            y.add();
            Check.due("the thirtieth counts", 0, y.models());
        });
        edge("S1", "ORDER of ASSIGNMENTS: by VARIABLE 1 first, false ahead of true, then by 2, and so on.", () -> {
            Hall x = Halls.wide(12);
            Check.due("first", "-1 -2 -3 -4 -5 -6 -7 -8 -9 -10 -11 -12", x.model(0));
            Check.due("second", "-1 -2 -3 -4 -5 -6 -7 -8 -9 -10 -11 12", x.model(1));
            Check.due("last of the first half", "-1 2 3 4 5 6 7 8 9 10 11 12", x.model(2047));
            Check.due("first of the second half", "1 -2 -3 -4 -5 -6 -7 -8 -9 -10 -11 -12", x.model(2048));
            Check.due("last", "1 2 3 4 5 6 7 8 9 10 11 12", x.model(4095));
            Hall y = Halls.wide(1);
            Check.due("of one", "-1, 1", y.model(0) + ", " + y.model(1));
        });
    }

    private static void lastVariable(Hall x, int last) {
        Check.due("last LITERALS of " + last, 0, x.add(last, -last));
        Check.due("last SCORE of " + last, 0, x.score(last, 1));
        Check.due("last SIGN of " + last, true, x.sign(last, true));
        Check.due("last VARIABLE of " + last, "1 1", x.ofVariable(last, 0) + " " + x.ofVariable(last, 1));
        int all = (1 << last) - 1;
        Check.due("last set of " + last, "1 1", x.assume(all, 0) + " " + x.assume(0, all));
        Check.due("last set of " + last, "\"\" \"\"", "\"" + x.follows(all, 0) + "\" \"" + x.follows(0, all) + "\"");
        Check.due("last set of " + last, last, x.atMost(all, 0));
        Check.due("WIDTH " + last, last, x.house(0));
    }

    private static void behindLastVariable(Edges.Recipe recipe, int last) {
        Edges.refused("LITERAL behind " + last, ARGUMENT, recipe, x -> x.add(last + 1));
        Edges.refused("LITERAL behind " + last, ARGUMENT, recipe, x -> x.add(-last - 1));
        Edges.refused("SCORE behind " + last, ARGUMENT, recipe, x -> x.score(last + 1, 0));
        Edges.refused("SIGN behind " + last, ARGUMENT, recipe, x -> x.sign(last + 1, true));
        Edges.refused("VARIABLE behind " + last, ARGUMENT, recipe, x -> x.ofVariable(last + 1, 0));
        Edges.refused("yes behind " + last, ARGUMENT, recipe, x -> x.assume(1 << last, 0));
        Edges.refused("no behind " + last, ARGUMENT, recipe, x -> x.assume(0, 1 << last));
        Edges.refused("yes behind " + last, ARGUMENT, recipe, x -> x.failing(1 << last, 0));
        Edges.refused("no behind " + last, ARGUMENT, recipe, x -> x.failing(0, 1 << last));
        Edges.refused("yes behind " + last, ARGUMENT, recipe, x -> x.follows(1 << last, 0));
        Edges.refused("no behind " + last, ARGUMENT, recipe, x -> x.follows(0, 1 << last));
        Edges.refused("set behind " + last, ARGUMENT, recipe, x -> x.atMost(1 << last, 0));
        Hall x = recipe.make();
        Check.due("SENTENCE behind " + last, last < 12 ? -1 : 1, x.type(last < 12 ? "" + (char) ('a' + last) : "l")
                .sentence());
    }

    private static String oneLiteral(int literal) {
        Hall x = Halls.wide(1);
        return x.clause(x.add(literal));
    }

    private static void numbers() {
        Hall x = Halls.jump();
        x.run(5);
        Check.due("a LEARNED one is numbered", "3 -1 -3", x.house(3) + " " + x.clause(2));
        x.anew();
        x.forget(0);
        Check.due("behind a FORGOTTEN one", 3, x.add(1));
        x.drop(3);
        Check.due("behind a dropped one", 4, x.add(1));
        x.clear();
        Check.due("behind cleared ones", 5, x.add(1));
        x.clear();
        x.wide(12);
        Check.due("behind another WIDTH", 6, x.add(1));
        x.atMost(0b110, 0);
        Check.due("by a bound", "-2, -3", x.clauses(7, 2));
        x.type("d").sentence();
        Check.due("by a SENTENCE", "4", x.clause(9));
        x.anew();
        Check.due("ever", 10, x.house(3));
        for (int gone = 0; gone <= 5; gone++) {
            Check.due(gone + " is gone", false, x.hasClause(gone));
        }
        Check.due("ten is not there yet", false, x.hasClause(10));
        Check.due("of a new hall", 0, new Hall().add(1));
    }

    private static void sizes() {
        Hall x = Halls.wide(12);
        x.add(9, -10, 11, -12);
        x.add(5, 5, 5, 5);
        x.add(0, 0, 0, -6);
        x.add();
        Check.due("four unlike ones", "9 -10 11 -12", x.clause(0));
        Check.due("four alike are one", "5", x.clause(1));
        Check.due("how many", "4 1 1 0", x.ofClause(0, 0) + " " + x.ofClause(1, 0) + " " + x.ofClause(2, 0) + " "
                + x.ofClause(3, 0));
        Check.due("empty", "-", x.clause(3));
        Hall y = Halls.wide(12);
        y.add(-1, -2, -9, 10);
        y.add(-3, -4, -10, 11);
        y.add(-5, -6, -11, -9);
        y.run(12);
        Check.due("a LEARNED one has more than four", "-1 -2 -3 -4 -5 -6 -9", y.clause(3));
        Check.due("seven", 7, y.ofClause(3, 0));
    }

    private static void thirty() {
        Hall x = new Hall();
        for (int n = 0; n < 30; n++) {
            Check.due("CLAUSE " + n, n, x.add(1));
        }
        Check.fails("one more", STATE, () -> x.add(1));
        Check.due("thirty", 30, x.house(1));
        x.drop(7);
        Check.due("one in its place", 30, x.add(2));
        Check.fails("one more", STATE, () -> x.add(1));
        Hall y = Halls.jump().fill(27);
        y.run(5);
        Check.due("LEARNED ones are not told", "29 1", y.houses(1, 2));
        Check.due("the thirtieth", 30, y.add(1));
        Check.due("thirty-one are there", "30 1", y.houses(1, 2));
        Check.fails("one more", STATE, () -> y.add(1));
        Check.fails("one more by a bound", STATE, () -> y.atMost(1, 0));
        y.type("a");
        Check.fails("one more by a SENTENCE", STATE, y::sentence);
        y.clear();
        Check.due("thirty again", 30, y.fill(30).house(1));
    }

    // ---- promises

    private static void promises1And2() {
        edge("P1", "Creates an empty hall.", () -> {
            Hall x = new Hall();
            Check.due("house", "6 0 0 0 0 0 0 0 0 0 0 0 0 0 0 6",
                    x.houses(0, 1, 2, 3, 4, 5, 6, 7, 8, 9, 10, 11, 12, 13, 14, 15));
            Check.due("texts", "||", x.trailed() + "|" + x.typed() + "|" + x.fixed());
            Check.due("no LINE, no CORE, no FAULT but of nothing", "! ! 0", x.line(0) + " " + x.core() + " " + x.fault());
            Check.due("best", "0 0", x.best(false) + " " + x.best(true));
            Edges.refused("no CLAUSE", INDEX, Hall::new, y -> y.clause(0));
            Edges.refused("no place", INDEX, Hall::new, y -> y.trail(0, 0));
            Edges.refused("no PART", INDEX, Hall::new, y -> y.part(0, true));
            for (int v = 1; v <= 6; v++) {
                Check.due("SCORE and SIGN of " + v, "0 true", x.score(v, 99) + " " + x.sign(v, false));
                Check.due("of another hall " + v, "0 true", new Hall().score(v, 1) + " " + new Hall().sign(v, true));
            }
        });
        edge("P2", "Tells WIDTH.", () -> {
            Hall x = new Hall();
            for (int width = 1; width <= 12; width++) {
                x.wide(width);
                Check.due("WIDTH", width + " " + (1 << width) + " " + width, x.house(0) + " " + x.models() + " "
                        + x.house(15));
                Check.due("best", 0, x.best(true));
            }
        });
        edge("P2", "(TO BEGIN AGAIN; SCORES and SIGNS stay.)", EdgesOfClauses::wideBeginsAgain);
        edge("P2", "Returns that before.", () -> {
            Hall x = new Hall();
            Check.due("at first", 6, x.wide(6));
            Check.due("before", "6 12 1 1", x.wide(12) + " " + x.wide(1) + " " + x.wide(1) + " " + x.wide(7));
            Check.fails("refused", ARGUMENT, () -> x.wide(0));
            Check.due("before", 7, x.wide(2));
        });
        edge("P2", "Throws `IllegalArgumentException` if width is not 1 to 12", () -> {
            for (int wrong : new int[] {0, 13, -1, LOW, HIGH}) {
                Edges.refusedAlways("wide(" + wrong + ")", ARGUMENT, x -> x.wide(wrong));
            }
            Check.due("1 and 12", "6 1", wideTwice(1, 12));
        });
        edge("P2", "Throws `IllegalStateException` if there is a CLAUSE", () -> {
            Edges.refused("an empty one", STATE, EdgesOfClauses::emptyClause, x -> x.wide(5));
            Edges.refused("the same WIDTH", STATE, EdgesOfClauses::emptyClause, x -> x.wide(6));
            Edges.refused("told and LEARNED", STATE, Halls::searching, x -> x.wide(1));
            Edges.refused("thirty", STATE, Halls::full, x -> x.wide(12));
            Hall x = emptyClause();
            x.drop(0);
            Check.due("dropped", 6, x.wide(5));
            x.add(1);
            x.clear();
            Check.due("cleared", 5, x.wide(6));
            x.atMost(0, 0);
            Check.due("none came", 6, x.wide(7));
        });
    }

    private static String wideTwice(int one, int other) {
        Hall x = new Hall();
        return x.wide(one) + " " + x.wide(other);
    }

    private static Hall emptyClause() {
        Hall x = new Hall();
        x.add();
        return x;
    }

    private static void wideBeginsAgain() {
        Hall x = Halls.wide(12);
        x.score(12, 7);
        x.sign(12, false);
        x.score(1, 8);
        x.type("ab");
        x.blank();
        x.knock();
        x.run(60);
        Check.due("YES", "1 12 12", x.houses(4, 5, 6));
        x.wide(12);
        Check.due("begins again with the same WIDTH", "0 0 0", x.houses(4, 5, 6));
        x.run(3);
        x.wide(1);
        Check.due("begins again in a search", "0 0 0", x.houses(4, 5, 6));
        Check.due("CHOICES ever", 15, x.house(13));
        Check.due("the others stay", "1 1 2 ab", x.houses(8, 9, 12) + " " + x.typed());
        x.run(60);
        Check.due("YES", "| 1", x.trailed());
        x.wide(12);
        x.run(2);
        Check.due("SCORES and SIGNS stay", "| 1 | -12", x.trailed());
        Check.due("SCORES and SIGNS stay", "8 7 false", x.score(1, 0) + " " + x.score(12, 0) + " " + x.sign(12, true));
    }

    private static void promise3() {
        edge("P3", "Tells a CLAUSE.", () -> {
            Hall x = new Hall();
            x.tell(4, -3, 2, -1, 7);
            Check.due("CLAUSE", "-1 2 -3 4", x.clause(0));
            Check.due("of it", "4 0 7 0 0 3 0 -1", x.ofs(0, 0, 1, 2, 3, 4, 5, 6, 7));
            Check.due("house", "1 0 1 7", x.houses(1, 2, 3, 10));
            x.tell(0, 0, 0, 0, 0);
            Check.due("an empty one", "- 0", x.clause(1) + " " + x.ofClause(1, 0));
        });
        edge("P3", "(TO START ANEW; LEARNED clauses and the PROOF stay.)", () -> {
            Hall x = Halls.answeredNo();
            Check.due("NO", "2 0 2 1 2", x.houses(4, 5, 6, 2, 7));
            x.add(2, 3);
            Check.due("anew", "0 0 0 1 2", x.houses(4, 5, 6, 2, 7));
            Check.due("stay", "-1 1 4 3 2", x.clause(4) + " " + x.ofClause(4, 1) + " " + x.line(0));
            Hall y = Halls.searching();
            y.add(1);
            Check.due("in a search", "0 0 0 1 1", y.houses(4, 5, 6, 2, 7));
            Hall z = Halls.answeredYes();
            z.add(1);
            Check.due("YES", "0 0 0 1 1", z.houses(4, 5, 6, 2, 7));
            Check.due("goes on", "6 1 5", z.house(13) + " " + z.step() + " " + z.trail(0, 2));
        });
        for (int n = 0; n < 4; n++) {
            int at = n;
            edge("P3", n == 0 ? "`a`: a LITERAL, or 0 for nothing" : "`" + (char) ('a' + n) + "`: likewise", () -> {
                Check.due("1", "1", tellAt(at, 1));
                Check.due("-1", "-1", tellAt(at, -1));
                Check.due("6", "6", tellAt(at, 6));
                Check.due("-6", "-6", tellAt(at, -6));
                Check.due("nothing", "-", tellAt(at, 0));
                for (int wrong : new int[] {7, -7, 12, -12, 13, LOW, HIGH}) {
                    Edges.refused("" + wrong, ARGUMENT, Halls::searching, x -> tellWith(x, at, wrong));
                }
            });
        }
        edge("P3", "`weight`: its WEIGHT", () -> {
            for (int weight = 0; weight <= 9; weight++) {
                Hall x = new Hall();
                x.tell(1, 0, 0, 0, weight);
                Check.due("WEIGHT", weight + " " + weight + " " + weight, x.ofClause(0, 2) + " " + x.house(10) + " "
                        + x.best(false));
            }
        });
        edge("P3", "Returns its number.", () -> {
            Hall x = Halls.jump();
            x.run(60);
            Check.due("behind a LEARNED one", 3, x.add(1));
            Check.fails("refused", ARGUMENT, () -> x.add(5));
            Check.due("behind a refused one", 4, x.add(1));
            Check.due("first", 0, new Hall().add(1));
        });
        edge("P3", "Throws `IllegalArgumentException` if a, b, c or d is neither 0 nor a LITERAL, or weight not 0 to 9",
                () -> {
            for (int wrong : new int[] {7, -7, LOW, HIGH}) {
                for (int at = 0; at < 4; at++) {
                    int place = at;
                    Edges.refusedAlways(wrong + " at " + at, ARGUMENT, x -> tellWith(x, place, wrong));
                }
            }
            for (int wrong : new int[] {-1, 10, LOW, HIGH}) {
                Edges.refusedAlways("weight " + wrong, ARGUMENT, x -> x.tell(1, 2, 3, 4, wrong));
            }
        });
        edge("P3", "Throws `IllegalStateException` if 30 told ones are there", () -> {
            Edges.refused("thirty and a LEARNED one", STATE, Halls::full, x -> x.add(1));
            Edges.refused("thirty", STATE, () -> new Hall().fill(30), x -> x.add());
            Hall x = new Hall().fill(29);
            Check.due("the thirtieth", 29, x.add(1));
            Check.fails("one more", STATE, () -> x.add(1));
            x.drop(0);
            Check.due("for a dropped one", 30, x.add(1));
        });
    }

    private static int tellWith(Hall x, int at, int literal) {
        int[] four = new int[4];
        four[at] = literal;
        return x.tell(four[0], four[1], four[2], four[3], 1);
    }

    private static String tellAt(int at, int literal) {
        Hall x = new Hall();
        return x.clause(tellWith(x, at, literal));
    }

    private static void promises4And5() {
        edge("P4", "Drops a told CLAUSE.", () -> {
            Hall x = new Hall();
            x.add(1);
            x.add(2);
            x.add(3);
            x.drop(1);
            Check.due("the others keep their numbers", "1 false 3", x.clause(0) + " " + x.hasClause(1) + " " + x.clause(2));
            Check.due("MODELS", 16, x.models());
            x.drop(0);
            Check.due("of the last", "3 32", x.fixed() + " " + x.models());
            x.drop(2);
            Check.due("without", "64 6 0", x.models() + " " + x.house(15) + " " + x.house(11));
        });
        edge("P4", "(TO BEGIN AGAIN.)", () -> {
            Hall x = Halls.answeredNo();
            x.drop(0);
            Check.due("after NO", "0 0 0 0 0", x.houses(4, 5, 6, 2, 7));
            Check.due("no LINE", "!", x.line(0));
            Check.due("numbers that stay", "5 2", x.houses(3, 14));
            Hall y = Halls.searching();
            y.drop(3);
            Check.due("in a search", "0 0 0 0 0 5", y.houses(4, 5, 6, 2, 7, 13));
            Check.due("LEARNED ones go", false, y.hasClause(4));
            Check.due("the others stay", "a+ 42 false", y.typed() + " " + y.score(6, 0) + " " + y.sign(6, true));
        });
        edge("P4", "Returns how many told ones are left.", () -> {
            Hall x = new Hall().fill(30);
            for (int n = 0; n < 30; n++) {
                Check.due("left", 29 - n, x.drop(n));
            }
            Hall y = Halls.searching();
            Check.due("LEARNED ones are not told", 3, y.drop(0));
        });
        edge("P4", "Throws `IndexOutOfBoundsException` if there is no such told CLAUSE", () -> {
            for (int wrong : new int[] {-1, 31, LOW, HIGH}) {
                Edges.refusedAlways("drop(" + wrong + ")", INDEX, x -> x.drop(wrong));
            }
            Edges.refused("none is there", INDEX, Hall::new, x -> x.drop(0));
            Edges.refused("a LEARNED one", INDEX, Halls::searching, x -> x.drop(4));
            Edges.refused("one that did not come yet", INDEX, Halls::searching, x -> x.drop(5));
            Edges.refused("a dropped one", INDEX, EdgesOfClauses::oneDropped, x -> x.drop(0));
            Edges.refused("a cleared one", INDEX, EdgesOfClauses::oneCleared, x -> x.drop(0));
        });
        edge("P5", "Tells the WEIGHT of a told CLAUSE.", () -> {
            Hall x = Halls.searching();
            String before = x.trailed() + x.houses(1, 2, 3, 4, 5, 6, 7);
            x.weigh(3, 9);
            Check.due("WEIGHTS", "9 15 15", x.ofClause(3, 2) + " " + x.house(10) + " " + x.best(false));
            x.weigh(3, 0);
            Check.due("WEIGHTS", "0 6 6", x.ofClause(3, 2) + " " + x.house(10) + " " + x.best(false));
            Check.due("the search goes on", before, x.trailed() + x.houses(1, 2, 3, 4, 5, 6, 7));
            Hall y = Halls.answeredNo();
            y.weigh(0, 0);
            Check.due("the ANSWER stays", "2 2 1", y.houses(4, 7, 2));
        });
        edge("P5", "Returns that before.", () -> {
            Hall x = new Hall();
            x.tell(1, 0, 0, 0, 9);
            Check.due("before", "9 0 0", x.weigh(0, 0) + " " + x.weigh(0, 0) + " " + x.weigh(0, 9));
            Check.fails("refused", ARGUMENT, () -> x.weigh(0, 10));
            Check.due("before", 9, x.weigh(0, 1));
        });
        edge("P5", "Throws `IndexOutOfBoundsException` if there is no such told CLAUSE", () -> {
            for (int wrong : new int[] {-1, 31, LOW, HIGH}) {
                Edges.refusedAlways("weigh(" + wrong + ")", INDEX, x -> x.weigh(wrong, 1));
            }
            Edges.refused("none is there", INDEX, Hall::new, x -> x.weigh(0, 0));
            Edges.refused("a LEARNED one", INDEX, Halls::searching, x -> x.weigh(4, 0));
            Edges.refused("one that did not come yet", INDEX, Halls::searching, x -> x.weigh(5, 9));
            Edges.refused("a dropped one", INDEX, EdgesOfClauses::oneDropped, x -> x.weigh(0, 1));
            Edges.refused("a cleared one", INDEX, EdgesOfClauses::oneCleared, x -> x.weigh(0, 1));
        });
        edge("P5", "Throws `IllegalArgumentException` if weight is not 0 to 9", () -> {
            for (int wrong : new int[] {-1, 10, LOW, HIGH}) {
                Edges.refused("weight " + wrong, ARGUMENT, Halls::searching, x -> x.weigh(3, wrong));
                Edges.refused("weight " + wrong, ARGUMENT, Halls::full, x -> x.weigh(0, wrong));
            }
        });
    }

    private static Hall oneDropped() {
        Hall x = Halls.searching();
        x.drop(0);
        return x;
    }

    private static Hall oneCleared() {
        Hall x = Halls.searching();
        x.clear();
        return x;
    }

    private static void promise6() {
        edge("P6", "for each set of many + 1 of these, the CLAUSE of their LITERALS -v; sets by their smallest VARIABLE,"
                + " then by the next one, and so on.", EdgesOfClauses::boundsInOrder);
        edge("P6", "Tells CLAUSES so that at most so many of some VARIABLES are true", () -> {
            for (int many = 0; many <= 3; many++) {
                Hall x = new Hall();
                x.atMost(0b110111, many);
                int count = many == 0 ? 1 : many == 1 ? 6 : many == 2 ? 16 : 26;
                Check.due("MODELS with at most " + many, 2 * count, x.models());
            }
            Check.due("of four", "1 5 11 15", modelsOfFour(0) + " " + modelsOfFour(1) + " " + modelsOfFour(2) + " "
                    + modelsOfFour(3));
        });
        edge("P6", "(TO START ANEW, also if none came.)", () -> {
            for (int set : new int[] {0, 1, 7}) {
                Hall x = Halls.answeredYes();
                Check.due("none", set == 7 ? 3 : 0, x.atMost(set, 1));
                Check.due("anew", "0 0 0", x.houses(4, 5, 6));
                Check.due("LEARNED ones and the PROOF stay", "1 1 -1 -3", x.houses(2, 7) + " " + x.clause(4));
            }
            Hall y = Halls.full();
            Check.due("none with thirty", 0, y.atMost(7, 3));
            Check.due("anew", "0 0 0 30", y.houses(4, 5, 6, 1));
        });
        edge("P6", "`variables`: a set of VARIABLES", () -> {
            for (int many = 0; many <= 3; many++) {
                Check.due("the empty set", 0, new Hall().atMost(0, many));
            }
            Hall x = Halls.wide(12);
            Check.due("all twelve", 12, x.atMost(4095, 0));
            Check.due("last", "-12", x.clause(11));
            Check.due("the last one", 1, x.atMost(2048, 0));
            Hall y = Halls.wide(1);
            Check.due("of one", "1 0", y.atMost(1, 0) + " " + y.atMost(1, 1));
        });
        edge("P6", "`many`: how many", () -> {
            for (int many = 0; many <= 3; many++) {
                Hall x = Halls.wide(12);
                int exactly = (1 << many) - 1 << 3;
                Check.due("as many as there are", 0, x.atMost(exactly, many));
                Check.due("one more than may be", 1, x.atMost(exactly | 2048, many));
                Check.due("of so many LITERALS", many + 1, x.ofClause(0, 0));
            }
        });
        edge("P6", "Returns how many CLAUSES came (WEIGHT 1).", () -> {
            int[][] due = {{5, 10, 10, 5}, {6, 15, 20, 15}};
            for (int many = 0; many <= 3; many++) {
                Hall x = new Hall();
                Check.due("of five", due[0][many], x.atMost(31, many));
                Check.due("told", due[0][many] + " " + due[0][many], x.houses(1, 10));
                Check.due("WEIGHT", "1 1", x.ofClause(0, 2) + " " + x.ofClause(due[0][many] - 1, 2));
                Check.due("of six", due[1][many], new Hall().atMost(63, many));
            }
        });
        edge("P6", "Throws `IllegalArgumentException` if variables is not a set of VARIABLES, or many not 0 to 3", () -> {
            for (int wrong : new int[] {-1, 64, 127, 4096, LOW, HIGH}) {
                Edges.refusedAlways("set " + wrong, ARGUMENT, x -> x.atMost(wrong, 0));
            }
            for (int wrong : new int[] {-1, 4, LOW, HIGH}) {
                Edges.refusedAlways("many " + wrong, ARGUMENT, x -> x.atMost(0, wrong));
                Edges.refusedAlways("many " + wrong, ARGUMENT, x -> x.atMost(63, wrong));
            }
            Edges.refused("twelve", ARGUMENT, () -> Halls.wide(12), x -> x.atMost(4096, 0));
        });
        edge("P6", "Throws `IllegalStateException` if there would be more than 30 told ones", () -> {
            Hall x = new Hall().fill(15);
            Check.due("just thirty", 15, x.atMost(63, 1));
            Check.due("thirty", 30, x.house(1));
            Check.due("none at thirty", 0, x.atMost(1, 1));
            Edges.refused("thirty-one", STATE, () -> new Hall().fill(16), y -> y.atMost(63, 1));
            Edges.refused("one at thirty", STATE, Halls::full, y -> y.atMost(32, 0));
            Edges.refused("495", STATE, () -> Halls.wide(12), y -> y.atMost(4095, 3));
            Edges.refused("36", STATE, () -> Halls.wide(12), y -> y.atMost(0b111111111, 1));
            Hall z = Halls.jump().fill(27);
            z.run(60);
            Check.due("LEARNED ones are not told", "1 1", z.house(2) + " " + z.atMost(1, 0));
        });
    }

    private static int modelsOfFour(int many) {
        Hall x = Halls.wide(4);
        x.atMost(15, many);
        return x.models();
    }

    private static void boundsInOrder() {
        String[] due = {"-1, -3, -4, -6, -12", "-1 -3, -1 -4, -1 -6, -1 -12, -3 -4, -3 -6, -3 -12, -4 -6, -4 -12, -6 -12",
            "-1 -3 -4, -1 -3 -6, -1 -3 -12, -1 -4 -6, -1 -4 -12, -1 -6 -12, -3 -4 -6, -3 -4 -12, -3 -6 -12, -4 -6 -12",
            "-1 -3 -4 -6, -1 -3 -4 -12, -1 -3 -6 -12, -1 -4 -6 -12, -3 -4 -6 -12"};
        for (int many = 0; many <= 3; many++) {
            Hall x = Halls.wide(12);
            x.add(7);
            int came = x.atMost(0b100000101101, many);
            Check.due("sets of " + (many + 1), due[many], x.clauses(1, came));
        }
    }

    private static void promise9() {
        edge("P9", "All CLAUSES go, TYPED, SCORES and SIGNS stay.", () -> {
            Hall x = Halls.searching();
            x.clear();
            for (int number = 0; number <= 5; number++) {
                Check.due("CLAUSE " + number, false, x.hasClause(number));
            }
            Check.due("none", "0 0 0 0 6", x.houses(1, 2, 10, 11, 15));
            Check.due("stay", "a+ 42 false", x.typed() + " " + x.score(6, 42) + " " + x.sign(6, false));
            Check.due("stay", "1 2 5 5 1 6", x.houses(8, 9, 3, 13, 14, 0));
            x.step();
            Check.due("SCORES and SIGNS stay", "| -6", x.trailed());
        });
        edge("P9", "(TO BEGIN AGAIN.)", () -> {
            Edges.Recipe[] states = Halls.states();
            for (Edges.Recipe state : states) {
                Hall x = state.make();
                x.clear();
                Check.due("begins again", "0 0 0 0 0 ! 64", x.houses(4, 5, 6, 2, 7) + " " + x.line(0) + " " + x.models());
            }
        });
        edge("P9", "All CLAUSES go", () -> {
            Hall x = Halls.parts();
            Check.due("ahead", "24 2 1 26", x.models() + " " + x.houses(11, 15, 10));
            x.clear();
            Check.due("behind", "64 0 6 0", x.models() + " " + x.houses(11, 15, 10));
            Check.due("behind", "! 0 0", x.core() + " " + x.best(false) + " " + x.best(true));
        });
        edge("P9", "Returns how many told ones there were.", () -> {
            Hall x = Halls.full();
            Check.due("thirty, and a LEARNED one", "30 1", x.houses(1, 2));
            Check.due("thirty", 30, x.clear());
            Check.due("none", 0, x.clear());
            Check.due("of a new hall", 0, new Hall().clear());
        });
    }

    // ---- not promised

    private static void notPromised() {
        edge("N", "Nothing is promised beyond the answers and state changes described above, and nothing about an object"
                + " after its 512th call.", () -> {
            Edges.Call[] changes = {x -> x.add(2, -4), x -> x.drop(0), x -> x.weigh(1, 9), x -> x.atMost(0b101, 1),
                Hall::sentence, Hall::clear, x -> x.score(2, 50), x -> x.sign(2, false), Hall::step, x -> x.run(60),
                Hall::anew, x -> x.forget(0), x -> x.retype("a=f").typed(), Hall::blank, Hall::knock, x -> x.wide(6)};
            for (Edges.Recipe state : Halls.states()) {
                for (Edges.Call one : changes) {
                    for (Edges.Call other : changes) {
                        String due = changed(state, one, other, false, false);
                        Check.due("asked ahead", due, changed(state, one, other, true, false));
                        Check.due("asked ahead and between", due, changed(state, one, other, true, true));
                    }
                }
            }
        });
    }

    private static String changed(Edges.Recipe state, Edges.Call one, Edges.Call other, boolean isAskedAhead,
            boolean isAskedBetween) {
        Hall x = state.make();
        if (isAskedAhead) {
            askAll(x);
        }
        Edges.ask(x, one);
        if (isAskedBetween) {
            askAll(x);
        }
        Edges.ask(x, other);
        return Edges.probe(x);
    }

    private static void askAll(Hall x) {
        x.houses(0, 2, 11, 15);
        x.model(x.models() - 1 & HIGH);
        x.ofVariable(1, 2);
        x.assume(1, 2);
        x.failing(3, 4);
        x.follows(1, 0);
        x.leastCore();
        x.fixed();
        x.core();
        x.best(true);
        x.trailed();
        x.typed();
        x.line(0);
        x.isSound();
        x.digest();
        Edges.ask(x, h -> h.part(0, true));
        Edges.ask(x, h -> h.trail(0, 1));
        Edges.ask(x, h -> h.clause(0));
        Edges.ask(x, h -> h.ofClause(0, 7));
    }
}
