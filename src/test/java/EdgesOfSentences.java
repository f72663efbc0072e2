/** The document's sentences on TYPED: part 4, promises 7, 8, 24 and 25. */
final class EdgesOfSentences {
    private static final Class<?> ARGUMENT = Edges.ARGUMENT;
    private static final Class<?> STATE = Edges.STATE;
    private static final int LOW = Edges.LOW;
    private static final int HIGH = Edges.HIGH;
    private static final String SIGNS = "abcdefghijkl!*+>=()";

    private EdgesOfSentences() {
    }

    static void run() {
        part4();
        promise7();
        promise8();
        promises24And25();
    }

    private static void edge(String section, String sentence, Edges.Test test) {
        Edges.edge(section, sentence, test);
    }

    /** 30 told CLAUSES of one SENTENCE that is typed still. */
    static Hall thirtyAndSentence() {
        Hall x = new Hall().type("a*b*c*d");
        x.sentence();
        x.sentence();
        return x;
    }

    private static Hall typed(String text) {
        return new Hall().type(text);
    }

    private static int faultOf(String text) {
        return typed(text).fault();
    }

    /** The CLAUSES that a text gives at WIDTH 12, with ", " between two. */
    private static String clausesOf(String text) {
        Hall x = Halls.wide(12).type(text);
        int came = x.sentence();
        return came < 0 ? "NONE" : x.clauses(0, came);
    }

    // ---- part 4

    private static void part4() {
        edge("S4", "TYPED is one text of at most 40 SIGNS, empty at first.", () -> {
            Hall x = new Hall();
            Check.due("at first", "\"\" 0", "\"" + x.typed() + "\" " + x.house(12));
            for (int n = 1; n <= 40; n++) {
                Check.due("SIGNS", n, x.code(n % 19));
            }
            Check.due("forty", "40 40", x.typed().length() + " " + x.house(12));
            for (int code = 0; code <= 18; code++) {
                int one = code;
                Check.fails("one more", STATE, () -> x.code(one));
            }
            Check.due("forty", 40, x.typed().length());
        });
        edge("S4", "Codes: 0 to 11 \"a\" to \"l\" (the VARIABLES 1 to 12), 12 \"!\", 13 \"*\", 14 \"+\", 15 \">\", 16 \"=\","
                + " 17 \"(\", 18 \")\"", () -> {
            for (int code = 0; code <= 18; code++) {
                Hall x = Halls.wide(12);
                x.code(code);
                Check.due("code " + code, SIGNS.substring(code, code + 1), x.typed());
                Check.due("SENTENCE of it", code <= 11 ? 1 : -1, x.sentence());
                if (code <= 11) {
                    Check.due("VARIABLE", code + 1, x.clause(0));
                }
            }
        });
        edge("S4", "19 takes the last SIGN off (if there is one), 20 all.", () -> {
            Hall x = new Hall();
            Check.due("of none", "0 0", x.code(19) + " " + x.code(20));
            x.type("ab");
            Check.due("of two", "1 a", x.code(19) + " " + x.typed());
            Check.due("of one", 0, x.code(19));
            Check.due("of none", 0, x.code(19));
            x.type("a+".repeat(20));
            Check.due("of forty", "39 a", x.code(19) + " " + x.typed().substring(38));
            Check.due("all", "0 \"\"", x.code(20) + " \"" + x.typed() + "\"");
        });
        edge("S4", "SENTENCE: one IMPLICATION, or more with \"=\" between; IMPLICATION: a SUM, or a SUM, \">\" and an"
                + " IMPLICATION; SUM: PRODUCTS with \"+\" between; PRODUCT: FACTORS with \"*\" between; FACTOR: a letter;"
                + " \"!\" and a FACTOR; \"(\" SENTENCE \")\".", EdgesOfSentences::grammar);
        edge("S4", "At most 4 brackets are open at once.", () -> {
            Check.due("four", -1, faultOf("((((a))))"));
            Check.due("five", 4, faultOf("(((((a)))))"));
            Check.due("five with others between", 10, faultOf("!(a+(b*(!(("));
            Check.due("four, closed and opened again", -1, faultOf("((((a)))+(((b))))"));
            Check.due("four at the end again", -1, faultOf("(a)*(b)*(c)*(d)*(e)*((((f))))"));
            Check.due("five behind a closed one", 8, faultOf("(a)*(((((b"));
            Check.due("the others are read", "-1", clausesOf("((((!a))))"));
            Check.due("none is told", "NONE", clausesOf("(((((!a)))))"));
        });
        edge("S4", "\"!\" turns, \"*\" is both, \"+\" at least one, \">\" the second one or not the first, \"=\" both alike"
                + " (from left to right).", EdgesOfSentences::meanings);
        edge("S4", "FAULT of TYPED: how many SIGNS the longest text has with which TYPED begins, and with which some"
                + " SENTENCE, of any length, begins, too; NONE, if TYPED is one.", EdgesOfSentences::faults);
        edge("S4", "CLAUSES of a SENTENCE of at most 4 VARIABLES: for each ASSIGNMENT of its VARIABLES, in ORDER, that"
                + " makes it false, the CLAUSE of the LITERALS that are false by it.", () -> {
            Check.due("one", "1, -1", clausesOf("a*!a"));
            Check.due("two", "2 12, 2 -12, -2 12, -2 -12", clausesOf("b*!b*(l+!l)"));
            Check.due("two", "2 -12", clausesOf("b+!l"));
            Check.due("three", "1 5 9, 1 5 -9, 1 -5 9, 1 -5 -9, -1 5 9, -1 5 -9, -1 -5 9, -1 -5 -9",
                    clausesOf("a*!a*e*i"));
            Hall x = Halls.wide(12).type("l*!l*a*f*c");
            Check.due("four", 16, x.sentence());
            Check.due("first", "1 3 6 12, 1 3 6 -12, 1 3 -6 12, 1 3 -6 -12", x.clauses(0, 4));
            Check.due("last", "-1 -3 -6 12, -1 -3 -6 -12", x.clauses(14, 2));
            Check.due("none is false", "", clausesOf("a+b+c+d+!a"));
        });
    }

    private static void grammar() {
        String[] right = {"a", "l", "!a", "!!!a", "a*b", "a+b", "a>b", "a=b", "a*b*c", "a+b+c", "a>b>c", "a=b=c", "(a)",
            "!(a)", "(!a)", "(a=b)", "(a>b)*c", "a*!(b=c)", "a=b>c+d*!e", "((a))=((b))", "!!((a)>!b)"};
        for (String text : right) {
            Check.due(text, -1, faultOf(text));
        }
        String[] wrong = {"", "!", "*", "+", ">", "=", "(", ")", "a!", "a*", "a+", "a>", "a=", "a(", "a)", "ab", "*a",
            "+a", ">a", "=a", "()", "(a", "a**b", "a*+b", "a>>b", "a==b", "a!b", "(a)b", "(a)(b)", "(a*)", "!()", "a>=b"};
        for (String text : wrong) {
            Check.due(text + " is one", false, faultOf(text) == -1);
            Check.due(text + " tells", "NONE", clausesOf(text));
        }
    }

    private static void meanings() {
        Check.due("!a", "-1", clausesOf("!a"));
        Check.due("!!a", "1", clausesOf("!!a"));
        Check.due("!!!a", "-1", clausesOf("!!!a"));
        Check.due("a*b", "1 2, 1 -2, -1 2", clausesOf("a*b"));
        Check.due("a+b", "1 2", clausesOf("a+b"));
        Check.due("a>b", "-1 2", clausesOf("a>b"));
        Check.due("b>a", "1 -2", clausesOf("b>a"));
        Check.due("a=b", "1 -2, -1 2", clausesOf("a=b"));
        Check.due("a>b>c is a>(b>c)", "-1 -2 3", clausesOf("a>b>c"));
        Check.due("(a>b)>c", "1 2 3, 1 -2 3, -1 -2 3", clausesOf("(a>b)>c"));
        Check.due("a>b>c>d", "-1 -2 -3 4", clausesOf("a>b>c>d"));
        Check.due("a=b=c", "1 2 3, 1 -2 -3, -1 2 -3, -1 -2 3", clausesOf("a=b=c"));
        Check.due("a=b>c is a=(b>c)", "1 2 3, 1 2 -3, 1 -2 -3, -1 -2 3", clausesOf("a=b>c"));
        Check.due("a>b=c is (a>b)=c", "1 2 3, 1 -2 3, -1 2 -3, -1 -2 3", clausesOf("a>b=c"));
        Check.due("a+b*c is a+(b*c)", "1 2 3, 1 2 -3, 1 -2 3", clausesOf("a+b*c"));
        Check.due("a*b+c is (a*b)+c", "1 2 3, 1 -2 3, -1 2 3", clausesOf("a*b+c"));
        Check.due("a+b>c is (a+b)>c", "1 -2 3, -1 2 3, -1 -2 3", clausesOf("a+b>c"));
        Check.due("a>b+c is a>(b+c)", "-1 2 3", clausesOf("a>b+c"));
        Check.due("!a*b is (!a)*b", "1 2, -1 2, -1 -2", clausesOf("!a*b"));
        Check.due("!a=b is (!a)=b", "1 2, -1 -2", clausesOf("!a=b"));
        Check.due("!(a*b)", "-1 -2", clausesOf("!(a*b)"));
        Check.due("!(a=b)", "1 2, -1 -2", clausesOf("!(a=b)"));
        Check.due("(a=b)*(c+!c)", "1 -2 3, 1 -2 -3, -1 2 3, -1 2 -3", clausesOf("(a=b)*(c+!c)"));
        Check.due("a=a", "", clausesOf("a=a"));
        Check.due("a=!a", "1, -1", clausesOf("a=!a"));
    }

    private static void faults() {
        String[] texts = {"", "+", ")", "=a", "!", "!!", "!)", "(", "()", "(+", "a!", "a(", "a)", "ab", "a+", "a+)", "a+b)",
            "(a", "(a(", "(ab", "(a))", "(a)(", "(a)!", "(a)b", "a>b>", "a==b", "a)b(", "((((a", "(((((", "((((+", "(a+b))c",
            "((a)+b", "!!!!a!", "a*b+c>d=e)"};
        int[] due = {0, 0, 0, 0, 1, 2, 1, 1, 1, 1, 1, 1, 1, 1, 2, 2, 3,
            2, 2, 2, 3, 3, 3, 3, 4, 2, 1, 5, 4, 4, 5, 6, 5, 9};
        for (int n = 0; n < texts.length; n++) {
            Check.due("\"" + texts[n] + "\"", due[n], faultOf(texts[n]));
        }
        String open = "((((" + "a+".repeat(18);
        Check.due("forty SIGNS, of a SENTENCE of 45", 40, faultOf(open));
        Check.due("forty SIGNS !", 40, faultOf("!".repeat(40)));
        Check.due("forty SIGNS, the last one wrong", 39, faultOf("a+".repeat(19) + "b)"));
        Check.due("forty SIGNS, the first one wrong", 0, faultOf("+".repeat(40)));
        Check.due("forty SIGNS that are one", -1, faultOf("!".repeat(39) + "c"));
        Check.due("forty SIGNS that are one", -1, faultOf("!(" + "a+".repeat(18) + "b)"));
        Hall x = typed("ab");
        Check.due("a wrong one", 1, x.fault());
        x.code(19);
        Check.due("taken off", -1, x.fault());
        x.code(19);
        Check.due("all off", 0, x.fault());
    }

    // ---- promise 7

    private static int sayAt(Hall x, int at, int code) {
        int[] codes = {-1, -1, -1, -1, -1, -1};
        codes[at] = code;
        return x.say(codes[0], codes[1], codes[2], codes[3], codes[4], codes[5]);
    }

    private static void promise7() {
        edge("P7", "Types codes, one after the other.", () -> {
            Hall x = new Hall();
            x.say(0, 19, 1, 2, 20, 3);
            Check.due("the last one alone is behind 20", "d", x.typed());
            x.say(4, 5, 19, 19, 19, 19);
            Check.due("all are taken off", "", x.typed());
            x.say(19, 6, -1, 7, -1, 8);
            Check.due("nothing is typed between", "ghi", x.typed());
            x.say(-1, -1, -1, -1, -1, -1);
            Check.due("nothing is typed", "ghi", x.typed());
            Hall y = Halls.searching();
            String before = y.trailed() + y.houses(1, 2, 3, 4, 5, 6, 7);
            y.say(0, 1, 2, 3, 4, 5);
            Check.due("the search goes on", before, y.trailed() + y.houses(1, 2, 3, 4, 5, 6, 7));
        });
        for (int n = 0; n < 6; n++) {
            int at = n;
            edge("P7", n == 0 ? "`a`: a code, or NONE for nothing" : "`" + (char) ('a' + n) + "`: likewise", () -> {
                for (int code = 0; code <= 18; code++) {
                    Hall x = new Hall();
                    Check.due("length", 1, sayAt(x, at, code));
                    Check.due("code " + code, SIGNS.substring(code, code + 1), x.typed());
                }
                Hall x = typed("abc");
                Check.due("NONE", "3 abc", sayAt(x, at, -1) + " " + x.typed());
                Check.due("19", "2 ab", sayAt(x, at, 19) + " " + x.typed());
                Check.due("20", "0", sayAt(x, at, 20) + x.typed());
            });
        }
        edge("P7", "Returns the length of TYPED then.", () -> {
            Hall x = new Hall();
            Check.due("nothing", 0, x.code(-1));
            Check.due("six", 6, x.say(0, 0, 0, 0, 0, 0));
            Check.due("one off", 5, x.code(19));
            Check.due("two more", 7, x.say(-1, 0, -1, -1, 0, -1));
            Check.due("all off, one more", 1, x.say(0, 20, 0, -1, -1, -1));
            Check.fails("refused", ARGUMENT, () -> x.say(0, 0, 0, 0, 0, -2));
            Check.due("one", 1, x.code(-1));
            x.retype("a+".repeat(20));
            Check.due("forty", 40, x.code(-1));
        });
        edge("P7", "Throws `IllegalArgumentException` if one is not -1 to 20", () -> {
            for (int wrong : new int[] {-2, 21, LOW, HIGH}) {
                for (int at = 0; at < 6; at++) {
                    int place = at;
                    Edges.refusedAlways(wrong + " at " + at, ARGUMENT, x -> sayAt(x, place, wrong));
                }
                Edges.refusedAlways(wrong + " behind others", ARGUMENT, x -> x.say(20, 0, 1, 2, 3, wrong));
                Edges.refusedAlways(wrong + " ahead of others", ARGUMENT, x -> x.say(wrong, 20, 0, 1, 2, 3));
            }
        });
        edge("P7", "Throws `IllegalStateException` if TYPED would have more than 40 SIGNS at some moment", () -> {
            Edges.refused("forty-one", STATE, Halls::full, x -> x.code(0));
            for (int at = 0; at < 6; at++) {
                int place = at;
                Edges.refused("forty-one by code " + at, STATE, Halls::full, x -> sayAt(x, place, 18));
            }
            Edges.refused("in the midst", STATE, Halls::full, x -> x.say(19, 0, 0, 19, 19, 19));
            Edges.refused("ahead of 20", STATE, Halls::full, x -> x.say(0, 20, -1, -1, -1, -1));
            Edges.refused("ahead of 19", STATE, Halls::full, x -> x.say(0, 19, -1, -1, -1, -1));
            Edges.refused("35 and six", STATE, () -> typed("a".repeat(35)), x -> x.say(0, 1, 2, 3, 4, 5));
            Edges.refused("39 and two", STATE, () -> typed("a".repeat(39)), x -> x.say(-1, 1, -1, -1, -1, 5));
            Check.due("34 and six", 40, typed("a".repeat(34)).say(0, 1, 2, 3, 4, 5));
            Check.due("39 and one", 40, typed("a".repeat(39)).code(5));
            Check.due("40 and nothing", 40, typed("a".repeat(40)).code(-1));
            Check.due("40 in time", 40, typed("a".repeat(40)).say(19, 1, 19, 2, 19, 3));
            Check.due("all off in time", 5, typed("a".repeat(40)).say(20, 1, 2, 3, 4, 5));
        });
    }

    // ---- promise 8

    private static void promise8() {
        edge("P8", "Tells the CLAUSES of TYPED (which stays), each with WEIGHT 1.", () -> {
            Hall x = typed("a=b");
            x.tell(1, 0, 0, 0, 9);
            x.sentence();
            Check.due("stays", "a=b", x.typed());
            Check.due("CLAUSES", "1, 1 -2, -1 2", x.clauses(0, 3));
            Check.due("WEIGHTS", "9 1 1 11", x.ofClause(0, 2) + " " + x.ofClause(1, 2) + " " + x.ofClause(2, 2) + " "
                    + x.house(10));
            Check.due("again", 2, x.sentence());
            Check.due("the same again", "1 -2, -1 2", x.clauses(3, 2));
        });
        edge("P8", "(TO START ANEW, also if none came.)", () -> {
            Hall x = Halls.answeredYes().retype("a=b");
            Check.due("two", 2, x.sentence());
            Check.due("anew", "0 0 0", x.houses(4, 5, 6));
            Check.due("LEARNED ones and the PROOF stay", "1 1 -1 -3", x.houses(2, 7) + " " + x.clause(4));
            Hall y = Halls.answeredNo().type("a+!a");
            Check.due("none", 0, y.sentence());
            Check.due("anew", "0 0 0", y.houses(4, 5, 6));
            Check.due("LEARNED ones and the PROOF stay", "1 2 -1 1 0 4", y.houses(2, 7) + " " + y.line(1));
            Hall z = Halls.full().retype("a>a");
            Check.due("none at thirty", 0, z.sentence());
            Check.due("anew", "0 0 0 30", z.houses(4, 5, 6, 1));
        });
        edge("P8", "Returns how many came", () -> {
            Check.due("none", 0, typed("a=a").sentence());
            Check.due("one", 1, typed("a>b").sentence());
            Check.due("fifteen", 15, typed("a*b*c*d").sentence());
            Check.due("sixteen", 16, typed("a*b*c*d*!d").sentence());
            Check.due("of one VARIABLE", 2, typed("f*!f").sentence());
        });
        edge("P8", "NONE (and nothing is changed), if TYPED has a FAULT, a VARIABLE above WIDTH, or more than 4 VARIABLES.",
                EdgesOfSentences::noSentence);
        edge("P8", "Throws `IllegalStateException` if there would be more than 30 told ones", () -> {
            Hall x = typed("a*b*c*d");
            Check.due("fifteen, then thirty", "15 15 30", x.sentence() + " " + x.sentence() + " " + x.house(1));
            Edges.refused("45", STATE, EdgesOfSentences::thirtyAndSentence, Hall::sentence);
            Edges.refused("31", STATE, () -> typed("a*b*c*d").fill(16), Hall::sentence);
            Edges.refused("31 by one", STATE, () -> typed("a").fill(30), Hall::sentence);
            Edges.refused("32 by sixteen", STATE, () -> typed("a*b*c*d*!d").fill(16), Hall::sentence);
            Check.due("30 by one", 1, typed("a").fill(29).sentence());
            Check.due("30 by sixteen", 16, typed("a*b*c*d*!d").fill(14).sentence());
            Hall y = Halls.jump().fill(27).type("a");
            y.run(60);
            Check.due("LEARNED ones are not told", "1 1", y.house(2) + " " + y.sentence());
            Check.due("a FAULT at thirty", -1, typed("a+").fill(30).sentence());
            Check.due("above WIDTH at thirty", -1, typed("g").fill(30).sentence());
            Check.due("five VARIABLES at thirty", -1, typed("a+b+c+d+e").fill(30).sentence());
        });
    }

    private static void noSentence() {
        String[] texts = {"", "a+", "ab", ")", "(a", "(((((a)))))", "g", "a+g", "l", "a*!a*l", "a+b+c+d+e", "a=a=b=c=d=f",
            "!".repeat(40)};
        for (String text : texts) {
            for (Edges.Recipe state : Halls.states()) {
                Hall x = state.make().retype(text);
                Check.due("\"" + text + "\"", -1, x.sentence());
                Check.due("\"" + text + "\" changes nothing", Edges.probe(state.make().retype(text)), Edges.probe(x));
            }
        }
        for (int width = 1; width <= 11; width++) {
            Hall x = Halls.wide(width);
            x.code(width);
            Check.due("VARIABLE above " + width, -1, x.sentence());
            x.wide(width + 1);
            Check.due("VARIABLE of " + (width + 1), 1, x.sentence());
        }
        Check.due("four VARIABLES", 1, typed("a+b+c+d+a+b+c+d").sentence());
        Check.due("the last four", 1, Halls.wide(12).type("i+j+k+l").sentence());
        Check.due("five VARIABLES", -1, Halls.wide(12).type("h+i+j+k+l").sentence());
        Check.due("twelve VARIABLES", -1, Halls.wide(12).type("a+b+c+d+e+f+g+h+i+j+k+l").sentence());
    }

    // ---- promises 24 and 25

    private static void promises24And25() {
        edge("P24", "Returns TYPED.", () -> {
            Hall x = new Hall();
            Check.due("empty", "", x.typed());
            x.type(SIGNS);
            Check.due("all SIGNS", SIGNS, x.typed());
            x.type(SIGNS + "ab");
            Check.due("forty", SIGNS + SIGNS + "ab", x.typed());
            Check.fails("refused", STATE, () -> x.code(0));
            Check.due("forty", SIGNS + SIGNS + "ab", x.typed());
            x.sentence();
            x.clear();
            x.wide(3);
            x.code(19);
            Check.due("one off", SIGNS + SIGNS + "a", x.typed());
            x.code(20);
            Check.due("empty", "", x.typed());
        });
        edge("P25", "Returns FAULT of TYPED.", () -> {
            Check.due("of nothing", 0, new Hall().fault());
            Check.due("of a SENTENCE", -1, faultOf("a"));
            Check.due("VARIABLES above WIDTH are none", -1, faultOf("l"));
            Check.due("five VARIABLES are none", -1, faultOf("a+b+c+d+e"));
            Check.due("of a WIDTH of 1", -1, Halls.wide(1).type("b*c").fault());
            Check.due("of forty", 40, faultOf("a+".repeat(20)));
            Check.due("at thirty CLAUSES", 1, typed("a)").fill(30).fault());
        });
    }
}
