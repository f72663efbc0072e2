/** The document's sentences on the search: part 2, promises 10 to 17. */
final class EdgesOfSearch {
    private static final Class<?> ARGUMENT = Edges.ARGUMENT;
    private static final int LOW = Edges.LOW;
    private static final int HIGH = Edges.HIGH;

    private EdgesOfSearch() {
    }

    static void run() {
        trailAndStates();
        steps();
        learning();
        forty();
        proof();
        promises10And11();
        promises12To14();
        promise15();
        promises16And17();
    }

    private static void edge(String section, String sentence, Edges.Test test) {
        Edges.edge(section, sentence, test);
    }

    /** Makes steps one by one; tells what each answered, and the TRAIL behind it. */
    private static void follow(Hall x, int[] answers, String... trails) {
        for (int n = 0; n < answers.length; n++) {
            Check.due("step " + n, answers[n], x.step());
            Check.due("TRAIL behind step " + n, trails[n], x.trailed());
        }
    }

    // ---- part 2: TRAIL, LEVEL, states

    private static void trailAndStates() {
        edge("S2", "TRAIL: a row of LITERALS that are TRUE, in the order in which they became so (their OPPOSITES are"
                + " FALSE); none at first.", () -> {
            Hall x = new Hall();
            Check.due("none at first", "\"\" 0", "\"" + x.trailed() + "\" " + x.house(6));
            x.add(6, 1);
            x.add(-6, 5);
            x.sign(1, false);
            x.run(4);
            Check.due("in order", "| -1 6 5 | 2", x.trailed());
            for (int literal : new int[] {1, -1}) {
                Hall y = Halls.wide(2);
                y.sign(1, literal > 0);
                y.add(literal, 2);
                y.add(-literal, 2);
                y.step();
                Check.due("TRUE, and its OPPOSITE is FALSE", "0 2", y.ofClause(0, 5) + " " + y.ofClause(1, 5));
            }
        });
        edge("S2", "Each has a LEVEL, and a REASON (a CLAUSE), or is a CHOICE.", () -> {
            Hall x = new Hall();
            x.add(4);
            x.add(-1, 3);
            x.run(4);
            Check.due("TRAIL", "4 | 1 3 | 2", x.trailed());
            Check.due("LEVELS", "0 1 1 2", x.trail(0, 1) + " " + x.trail(1, 1) + " " + x.trail(2, 1) + " " + x.trail(3, 1));
            Check.due("REASONS", "0 -1 1 -1", x.trail(0, 2) + " " + x.trail(1, 2) + " " + x.trail(2, 2) + " "
                    + x.trail(3, 2));
        });
        edge("S2", "LEVEL of the search: how many CHOICES there are.", () -> {
            Hall x = Halls.wide(12);
            Check.due("none", 0, x.house(5));
            for (int n = 1; n <= 12; n++) {
                x.step();
                Check.due("CHOICES", n, x.house(5));
            }
            x.step();
            Check.due("with YES", "12 1", x.houses(5, 4));
            Hall y = Halls.jump();
            y.run(4);
            Check.due("ahead of the JUMP", 3, y.house(5));
            y.step();
            Check.due("behind the JUMP", 1, y.house(5));
            y.run(60);
            y.anew();
            Check.due("anew", 0, y.house(5));
            Hall z = Halls.answeredNo();
            Check.due("with NO", 0, z.house(5));
        });
        edge("S2", "A CLAUSE is TRUE, if a LITERAL of it is, FALSE, if all are FALSE (an empty one too), UNIT, if it is"
                + " neither, and all but one LITERAL are FALSE.", EdgesOfSearch::states);
        edge("S2", "ANSWER: 0 none yet, 1 YES, 2 NO.", () -> {
            Hall x = Halls.wide(1);
            x.add(1);
            Check.due("none yet", 0, x.house(4));
            x.step();
            Check.due("none yet", 0, x.house(4));
            x.step();
            Check.due("YES", 1, x.house(4));
            x.add(-1);
            Check.due("none yet", 0, x.house(4));
            x.step();
            Check.due("none yet", 0, x.house(4));
            x.step();
            Check.due("NO", 2, x.house(4));
        });
    }

    private static void states() {
        Hall x = new Hall();
        x.add();
        Check.due("an empty one", 1, x.ofClause(0, 5));
        x.drop(0);
        x.add(1);
        Check.due("one LITERAL that is left", 2, x.ofClause(1, 5));
        x.drop(1);
        x.add(1, 2);
        x.add(-1, 2);
        x.add(-1, -2, 3);
        x.add(-1, -2, -3, 4);
        x.add(-1, 1);
        Check.due("at first", "3 3 3 3 3", statesOf(x));
        x.step();
        Check.due("1 is TRUE", "0 2 3 3 0", statesOf(x));
        x.step();
        Check.due("2 is TRUE", "0 0 2 3 0", statesOf(x));
        x.step();
        Check.due("3 is TRUE", "0 0 0 2 0", statesOf(x));
        x.step();
        Check.due("4 is TRUE", "0 0 0 0 0", statesOf(x));
        Hall y = new Hall();
        y.add(-1, 2);
        y.add(-1, -2, 3);
        y.add(-1, -2, -3);
        y.run(3);
        Check.due("all are FALSE", "0 0 1", y.ofClause(0, 5) + " " + y.ofClause(1, 5) + " " + y.ofClause(2, 5));
        Hall z = new Hall();
        z.add(1, -1, 2);
        z.sign(2, false);
        z.score(2, 1);
        z.step();
        Check.due("ALWAYS TRUE, two are left", 3, z.ofClause(0, 5));
        z.step();
        Check.due("no UNIT of it", "| -2 | 1", z.trailed());
    }

    private static String statesOf(Hall x) {
        StringBuilder s = new StringBuilder();
        for (int clause = 2; clause <= 6; clause++) {
            s.append(clause == 2 ? "" : " ").append(x.ofClause(clause, 5));
        }
        return s.toString();
    }

    // ---- part 2: STEPS

    private static void steps() {
        edge("S2", "A STEP, if there is no ANSWER yet:", () -> {
            for (Edges.Recipe recipe : new Edges.Recipe[] {Halls::answeredYes, Halls::answeredNo}) {
                Hall x = recipe.make();
                Check.due("with an ANSWER", 0, x.step());
                Check.due("nothing is done", Edges.probe(recipe.make()), Edges.probe(x));
            }
        });
        edge("S2", "If a CLAUSE is FALSE, the one with the smallest number is the CONFLICT.", () -> {
            Hall x = Halls.wide(4);
            x.add(-1, 2);
            x.add(4, 3);
            x.add(-1, -2, 4);
            x.add(-1, -2, 4);
            x.add(-1, -2, -4);
            x.sign(3, false);
            x.run(3);
            Check.due("ahead of an UNIT", "| 1 2 4", x.trailed());
            x.step();
            Check.due("of those with a smaller and a greater number", "5 4 2 0", x.line(0));
            Hall y = new Hall();
            y.add(1);
            y.add();
            Check.due("ahead of an UNIT with a smaller number", "5 -1 1", y.step() + " " + y.line(0));
            Hall z = learnedConflict();
            z.run(5);
            Check.due("a LEARNED one", "4 3 0", z.line(1));
        });
        edge("S2", "At LEVEL 0 it is a LAST LEARNING, and the ANSWER is NO.", () -> {
            Hall x = new Hall();
            x.add(1);
            x.add(-1);
            follow(x, new int[] {1, 5, 0}, "1", "1", "1");
            Check.due("LAST", "2 1 0 2 -1 1 0", x.houses(4, 7, 2, 3) + " " + x.line(0));
            Hall y = new Hall();
            y.add(-1, 2);
            y.add(-1, -2);
            follow(y, new int[] {2, 1, 3}, "| 1", "| 1 2", "");
            Check.due("not at LEVEL 1", "0 1 1 2 1 0", y.houses(4, 7, 2) + " " + y.line(0));
        });
        edge("S2", "Otherwise it is LEARNED from.", () -> {
            Hall x = Halls.noModel();
            follow(x, new int[] {2, 1, 3, 1, 1, 5}, "| -1", "| -1 2", "", "1", "1 3", "1 3");
            Check.due("one came", "1 5 1", x.houses(2, 3) + " " + x.clause(4));
        });
        edge("S2", "Otherwise, if a CLAUSE is UNIT, the one with the smallest number makes its LITERAL that is left TRUE,"
                + " as its REASON.", () -> {
            Hall x = Halls.wide(12);
            x.add(-12);
            x.add(12, 11);
            x.add(-1);
            x.add(1, -2);
            follow(x, new int[] {1, 1, 1, 1, 2}, "-12", "-12 11", "-12 11 -1", "-12 11 -1 -2", "-12 11 -1 -2 | 3");
            Check.due("REASONS", "0 1 2 3", x.trail(0, 2) + " " + x.trail(1, 2) + " " + x.trail(2, 2) + " "
                    + x.trail(3, 2));
            Hall y = new Hall();
            y.add(1);
            y.add(1);
            y.run(60);
            Check.due("of two with one LITERAL", "0 0 1", y.trail(0, 2) + " " + y.ofClause(1, 6) + " " + y.ofClause(0, 6));
        });
        edge("S2", "Otherwise, if a VARIABLE is neither way on the TRAIL: a CHOICE: the one of these with the greatest SCORE"
                + " (0 to 99; 0 at first); v becomes TRUE, if its SIGN is true (at first so), otherwise -v; the LEVEL is 1"
                + " more.", EdgesOfSearch::choices);
        edge("S2", "Otherwise the ANSWER is YES.", () -> {
            Hall x = Halls.wide(1);
            follow(x, new int[] {2, 4, 0}, "| 1", "| 1", "| 1");
            Hall y = Halls.wide(1);
            y.add(-1);
            follow(y, new int[] {1, 4, 0}, "-1", "-1", "-1");
            Hall z = Halls.wide(12);
            Check.due("twelve CHOICES and YES", "13 1", z.run(60) + " " + z.house(4));
        });
    }

    private static void choices() {
        Hall x = Halls.wide(12);
        x.score(12, 99);
        x.score(7, 98);
        x.score(8, 98);
        x.score(3, 1);
        x.sign(8, false);
        x.sign(1, false);
        x.run(60);
        Check.due("by SCORES", "| 12 | 7 | -8 | 3 | -1 | 2 | 4 | 5 | 6 | 9 | 10 | 11", x.trailed());
        Check.due("LEVEL", "12 12", x.houses(5, 13));
        Hall y = new Hall();
        y.run(60);
        Check.due("SCORES and SIGNS at first", "| 1 | 2 | 3 | 4 | 5 | 6", y.trailed());
        Hall z = new Hall();
        z.score(1, 99);
        z.add(1);
        z.add(-5, -4);
        z.score(5, 50);
        z.run(3);
        Check.due("those on the TRAIL are not chosen", "1 | 5 -4", z.trailed());
        z.run(2);
        Check.due("those on the TRAIL are not chosen", "1 | 5 -4 | 2 | 3", z.trailed());
        Check.due("LEVELS", "0 1 1 2 3", z.trail(0, 1) + " " + z.trail(1, 1) + " " + z.trail(2, 1) + " " + z.trail(3, 1)
                + " " + z.trail(4, 1));
    }

    // ---- part 2: LEARNING

    private static void learning() {
        edge("S2", "JOINING of two clauses on a VARIABLE v, of which the one has v, the other one -v: all LITERALS of both"
                + " but these two.", () -> {
            Hall x = Halls.wide(5);
            x.add(-1, -2, -4, 5);
            x.add(-1, -3, -4, -5);
            x.run(5);
            Check.due("choices", "| 1 | 2 | 3 | 4 5", x.trailed());
            x.step();
            Check.due("all but 5 and -5, each one once", "-1 -2 -3 -4", x.clause(2));
            Hall y = Halls.wide(1);
            y.add(1);
            y.add(-1);
            y.run(60);
            Check.due("none is left", "-1 1 0", y.line(0));
        });
        edge("S2", "LEARNING: the RESULT is the CONFLICT at first.", () -> {
            Hall x = Halls.wide(2);
            x.add(-1, 2);
            x.add(-1, -2);
            x.run(3);
            Check.due("CONFLICT behind the number", "2 1 0", x.line(0));
            Check.due("RESULT", "-1", x.clause(2));
        });
        edge("S2", "As long as it has more than one LITERAL whose OPPOSITE came at the LEVEL of the search: that of its"
                + " LITERALS whose OPPOSITE came last; the RESULT is JOINED with the REASON of that OPPOSITE, on its"
                + " VARIABLE.", EdgesOfSearch::joinings);
        edge("S2", "Then what has a LEVEL greater than the JUMP goes off the TRAIL; the JUMP is the greatest LEVEL at which"
                + " OPPOSITES of its other LITERALS came (0 without).", EdgesOfSearch::jumps);
        edge("S2", "The RESULT comes as a LEARNED clause.", () -> {
            Hall x = Halls.jump();
            x.run(4);
            Check.due("ahead", "2 0 2", x.houses(1, 2, 3));
            x.step();
            Check.due("behind", "2 1 3", x.houses(1, 2, 3));
            Check.due("LEARNED", "-1 -3: 2 1 0 0 0 2 0 -1", x.clause(2) + ": " + x.ofs(2, 0, 1, 2, 3, 4, 5, 6, 7));
            x.step();
            Check.due("a REASON", "| 1 -3: 0 1", x.trailed() + ": " + x.ofs(2, 5, 6));
        });
        edge("S2", "LAST LEARNING: likewise, but as long as the RESULT has any LITERAL (it ends in the empty clause, nothing"
                + " goes off the TRAIL, and no clause comes).", () -> {
            Hall x = Halls.wide(5);
            x.add(1);
            x.add(5);
            x.add(-1, 2);
            x.add(-2, 3);
            x.add(-3, -1, -2);
            x.run(60);
            Check.due("by the last one first, without 5", "-1 4 3 2 0", x.line(0));
            Check.due("nothing goes", "1 5 2 3", x.trailed());
            Check.due("no clause", "5 0 5 2 1 1", x.houses(1, 2, 3, 4, 7, 14));
            Hall y = new Hall();
            y.add();
            y.step();
            Check.due("the empty CLAUSE at once", "-1 0", y.line(0));
            Hall z = Halls.noModel();
            z.run(60);
            Check.due("with a LEARNED one", "-1 3 2 4", z.line(1));
        });
        edge("S2", "USE of a LEARNED clause: how often it was a CONFLICT, or a REASON that was JOINED.", EdgesOfSearch::uses);
    }

    private static void joinings() {
        Hall x = Halls.wide(6);
        x.add(-1, 2);
        x.add(-2, 3);
        x.add(-2, 4);
        x.add(-3, -4);
        x.run(4);
        Check.due("TRAIL", "| 1 2 3 4", x.trailed());
        x.step();
        Check.due("as far as one is left", "4 3 2 1", x.line(0));
        Check.due("not as far as the CHOICE", "-2", x.clause(4));
        Hall y = Halls.wide(6);
        y.add(-1, 2);
        y.add(-1, -2, 3);
        y.add(-1, -3, 4);
        y.add(-1, -4, -3);
        y.run(5);
        Check.due("as far as the CHOICE, on the last one first", "4 3 2 1 0", y.line(0));
        Check.due("the CHOICE", "-1", y.clause(4));
        Hall z = Halls.wide(6);
        z.add(-4, -5, 6);
        z.add(-1, -2, -6, 3);
        z.add(-3, -5, -2);
        z.run(5);
        Check.due("TRAIL", "| 1 | 2 | 3 -5 | 4", z.trailed());
        Hall w = Halls.wide(5);
        w.add(-1, -3, 5);
        w.add(-2, -5, -3);
        w.run(5);
        Check.due("one LITERAL of the LEVEL is enough", "2 1 0: -1 -2 -3", w.line(0) + ": " + w.clause(2));
    }

    private static void jumps() {
        Hall x = Halls.wide(6);
        x.add(-5, 6);
        x.add(-5, -6);
        x.run(6);
        Check.due("ahead", "| 1 | 2 | 3 | 4 | 5 6", x.trailed());
        x.step();
        Check.due("to 0 without others", ": 0 0: -5", x.trailed() + ": " + x.houses(5, 6) + ": " + x.clause(2));
        Hall y = Halls.wide(6);
        y.add(-2, -5, 6);
        y.add(-2, -5, -6);
        y.run(7);
        Check.due("to the greatest of the others", "| 1 | 2: 2: -2 -5", y.trailed() + ": " + y.house(5) + ": "
                + y.clause(2));
        Hall z = Halls.wide(6);
        z.add(-4, -5, 6);
        z.add(-1, -5, -6);
        z.run(7);
        Check.due("to the next LEVEL", "| 1 | 2 | 3 | 4: 4: -1 -4 -5", z.trailed() + ": " + z.house(5) + ": "
                + z.clause(2));
        Hall w = Halls.wide(6);
        w.add(1);
        w.add(2, -3);
        w.add(-1, -5, 6);
        w.add(-1, -5, -6);
        w.score(5, 9);
        w.run(4);
        Check.due("to 0 with others of LEVEL 0", "1: 0: -1 -5", w.trailed() + ": " + w.house(5) + ": " + w.clause(4));
        Hall v = Halls.wide(6);
        v.add(-1, 2);
        v.add(-2, -3, 5);
        v.add(-2, -3, -5);
        v.run(5);
        Check.due("what has the LEVEL of the JUMP stays", "| 1 2: 1: -2 -3", v.trailed() + ": " + v.house(5) + ": "
                + v.clause(3));
    }

    private static void uses() {
        Hall x = Halls.jump();
        x.run(5);
        Check.due("none at first", 0, x.ofClause(2, 3));
        x.run(60);
        Check.due("a REASON alone is no USE", "0 1", x.ofs(2, 3, 6));
        x.add(-1, 3);
        x.run(60);
        Check.due("JOINED", "1 -1 | 2 | 3 | 4", x.ofClause(2, 3) + " " + x.trailed());
        Check.due("by it", "4 3 2", x.line(1));
        x.add(1);
        x.run(60);
        Check.due("LAST", "2: -1 5 4: 1 1", x.house(4) + ": " + x.line(2) + ": " + x.ofClause(2, 3) + " "
                + x.ofClause(4, 3));
        x.anew();
        x.run(60);
        Check.due("once more", "-1 5 4: 1 2", x.line(3) + ": " + x.ofClause(2, 3) + " " + x.ofClause(4, 3));
        Check.due("0 of told ones", "0 0 0", x.ofClause(0, 3) + " " + x.ofClause(1, 3) + " " + x.ofClause(5, 3));
        Hall y = learnedConflict();
        y.run(4);
        Check.due("a LEARNED one is FALSE", "| 1 | 2 | 3 -4: 1 0", y.trailed() + ": " + y.ofs(3, 5, 3));
        Check.due("the CONFLICT", "3: 4 3 0: -1 -2 -3: 1 0", y.step() + ": " + y.line(1) + ": " + y.clause(4) + ": "
                + y.ofClause(3, 3) + " " + y.ofClause(4, 3));
    }

    /** LEARNED clause 3, "-2 -3 4", and a told one that with 1 true makes 4 false ahead of it. */
    private static Hall learnedConflict() {
        Hall x = Halls.wide(5);
        x.add(-3, -1, -4);
        x.add(-2, -3, 4, 5);
        x.add(-2, -3, 4, -5);
        x.sign(1, false);
        x.sign(4, false);
        x.run(60);
        x.sign(1, true);
        x.anew();
        return x;
    }

    // ---- part 2: forty LEARNED clauses

    private static void forty() {
        edge("S2", "At most 40 LEARNED clauses are there: with 40, ahead of one that comes (behind the JUMP), one is"
                + " FORGOTTEN.", () -> {
            Hall x = new Forty(1, 2, 3, 4, 5, 6, 7, 8).pairs(36).ones(5, 6, 7).hall;
            Check.due("39", "28 39 67", x.houses(1, 2, 3));
            Forty f = new Forty(1, 2, 3, 4, 5, 6, 7, 8).pairs(36).ones(5, 6, 7, 8);
            Hall y = f.hall;
            Check.due("40", "28 40 68", y.houses(1, 2, 3));
            Check.due("none is FORGOTTEN", "-1 -2 -5 -8 9", y.clause(28));
            f.untilLearned(1);
            Check.due("still 40", "28 40 69", y.houses(1, 2, 3));
            Check.due("one is FORGOTTEN, one came", "false true -1 -11", y.hasClause(28) + " " + y.hasClause(29) + " "
                    + y.clause(68));
            f.untilLearned(2);
            Check.due("still 40", "28 40 70", y.houses(1, 2, 3));
            Check.due("one is FORGOTTEN, one came", "false true -2 -11", y.hasClause(29) + " " + y.hasClause(30) + " "
                    + y.clause(69));
            Check.due("is sound", true, y.isSound());
        });
        edge("S2", "FORGOTTEN is that with the smallest USE which is no REASON on the TRAIL, of several the one with the"
                + " smallest number.", EdgesOfSearch::forgotten);
    }

    private static void forgotten() {
        Forty reason = new Forty(8, 1, 2, 3, 4, 5, 6, 7).pairs(36).ones(3, 4, 6, 7);
        reason.untilLearned(1, 2, 5, 8);
        Hall x = reason.hall;
        Check.due("the JUMP leaves a REASON", "-8 -11: | 1 | 2 | -3 | -4 | 5 | -6 | -7 | 8 9: 1", x.clause(68) + ": "
                + x.trailed() + ": " + x.ofClause(28, 6));
        Check.due("that stays, the next one goes", "true false true 40", x.hasClause(28) + " " + x.hasClause(29) + " "
                + x.hasClause(30) + " " + x.house(2));
        Forty jump = new Forty(1, 2, 3, 4, 5, 6, 7, 8).pairs(36).ones(3, 4, 6, 7);
        jump.untilLearned(1, 2, 5, 8);
        Hall y = jump.hall;
        Check.due("the JUMP takes the REASON off", "-1 -11: | 1", y.clause(68) + ": " + y.trailed());
        Check.due("that goes", "false true 40", y.hasClause(28) + " " + y.hasClause(29) + " " + y.house(2));
        usedStay();
    }

    /** CLAUSES 28 to 35 are those of 11; 28 and 30 are used for 38, "-11". */
    private static void usedStay() {
        Forty f = new Forty(1, 2, 3, 4, 5, 6, 7, 8).ones(1, 2, 3, 4, 5, 6, 7, 8);
        Hall x = f.hall;
        x.add(1, -11, 3);
        x.add(1, -11, -3);
        x.score(11, 1);
        x.run(60);
        Check.due("used", "38 36 30 28: -11: 1 0 1 0", x.line(8) + ": " + x.clause(38) + ": " + x.ofClause(28, 3) + " "
                + x.ofClause(29, 3) + " " + x.ofClause(30, 3) + " " + x.ofClause(31, 3));
        f.pairs(31);
        Check.due("forty", "40 true", x.house(2) + " " + x.hasClause(29));
        int[] gone = {29, 31, 32, 33, 34};
        for (int n = 0; n < gone.length; n++) {
            Check.due("is there yet", true, x.hasClause(gone[n]));
            f.pair(31 + n);
            Check.due("by smallest USE, then by number", "false true true 40", x.hasClause(gone[n]) + " "
                    + x.hasClause(28) + " " + x.hasClause(30) + " " + x.house(2));
        }
        Check.due("the next one", true, x.hasClause(35));
    }

    private static void proof() {
        edge("S2", "PROOF: a row of LINES, one for each LEARNING ever (LAST ones, too) since it was emptied: the number of"
                + " the clause that came (NONE for a LAST one), that of the CONFLICT, and those of the REASONS, as they were"
                + " JOINED.", () -> {
            Hall x = Halls.noModel();
            Check.due("none at first", "0 !", x.house(7) + " " + x.line(0));
            x.run(60);
            Check.due("two", "2: 4 1 0: -1 3 2 4: !", x.house(7) + ": " + x.line(0) + ": " + x.line(1) + ": " + x.line(2));
            x.anew();
            x.run(60);
            Check.due("it goes on", "3: -1 3 2 4", x.house(7) + ": " + x.line(2));
            x.drop(3);
            Check.due("emptied", "0 3 !", x.houses(7, 14) + " " + x.line(0));
            x.add(-1, -3);
            x.run(60);
            Check.due("since it was emptied", "2 5: 6 1 0: -1 5 2 6", x.houses(7, 14) + ": " + x.line(0) + ": "
                    + x.line(1));
            x.clear();
            Check.due("emptied", "0 5 !", x.houses(7, 14) + " " + x.line(0));
        });
        edge("S2", "(Clauses that were FORGOTTEN stand in it still.)", () -> {
            Hall x = Halls.noModel();
            x.run(60);
            x.anew();
            x.forget(0);
            Check.due("FORGOTTEN", "0 false", x.house(2) + " " + x.hasClause(4));
            Check.due("in it still", "2: 4 1 0: -1 3 2 4", x.house(7) + ": " + x.line(0) + ": " + x.line(1));
            Forty f = new Forty(1, 2, 3, 4, 5, 6, 7, 8).pairs(36).ones(5, 6, 7, 8);
            String line = f.hall.line(0);
            f.untilLearned(1);
            Check.due("FORGOTTEN by a search", "28 22 16 false 41", line + " " + f.hall.hasClause(28) + " "
                    + f.hall.house(7));
            Check.due("in it still", line, f.hall.line(0));
        });
        edge("S2", "TO START ANEW: the TRAIL is empty, and there is no ANSWER.", () -> {
            for (Edges.Recipe state : Halls.states()) {
                Hall x = state.make();
                String before = x.houses(1, 2, 3, 7, 8, 9, 10, 11, 12, 13, 14, 15);
                x.anew();
                Check.due("anew", "\"\" 0 0 0", "\"" + x.trailed() + "\" " + x.houses(4, 5, 6));
                Check.due("all else stays", before, x.houses(1, 2, 3, 7, 8, 9, 10, 11, 12, 13, 14, 15));
            }
        });
        edge("S2", "TO BEGIN AGAIN: that, and LEARNED clauses and the PROOF go.", () -> {
            Hall x = Halls.answeredNo();
            x.drop(0);
            Check.due("again", "\"\" 0 0 0 0 0 !", "\"" + x.trailed() + "\" " + x.houses(2, 4, 5, 6, 7) + " " + x.line(0));
            Check.due("clauses", "false true false 3", x.hasClause(0) + " " + x.hasClause(3) + " " + x.hasClause(4) + " "
                    + x.house(1));
            Forty f = new Forty(1, 2, 3, 4, 5, 6, 7, 8).pairs(36).ones(5, 6, 7, 8);
            Check.due("forty", "40 40", f.hall.houses(2, 7));
            f.hall.drop(0);
            Check.due("none", "0 0 27", f.hall.houses(2, 7, 1));
        });
    }

    // ---- promises 10 and 11

    private static void promises10And11() {
        edge("P10", "Tells the SCORE of a VARIABLE.", () -> {
            Hall x = Halls.wide(12);
            for (int v = 1; v <= 12; v++) {
                x.score(v, v * 8);
            }
            x.score(12, 0);
            x.score(11, 99);
            x.run(60);
            Check.due("CHOICES", "| 11 | 10 | 9 | 8 | 7 | 6 | 5 | 4 | 3 | 2 | 1 | 12", x.trailed());
            x.score(3, 9);
            Check.due("the TRAIL and the ANSWER stay", "| 11 | 10 | 9 | 8 | 7 | 6 | 5 | 4 | 3 | 2 | 1 | 12 1",
                    x.trailed() + " " + x.house(4));
        });
        edge("P10", "`score`: SCORE", () -> {
            Hall x = new Hall();
            for (int score = 0; score <= 99; score++) {
                x.score(6, score);
                Check.due("SCORE", score, x.score(6, score));
            }
        });
        edge("P10", "Returns that before.", () -> {
            Hall x = new Hall();
            for (int v = 1; v <= 6; v++) {
                Check.due("before", "0 99 0", x.score(v, 99) + " " + x.score(v, 0) + " " + x.score(v, v));
            }
            Check.fails("refused", ARGUMENT, () -> x.score(3, 100));
            Check.due("before", "1 3 6", x.score(1, 0) + " " + x.score(3, 0) + " " + x.score(6, 0));
        });
        edge("P10", "Throws `IllegalArgumentException` if variable is not 1 to WIDTH, or score not 0 to 99", () -> {
            for (int wrong : new int[] {0, 7, -1, -6, 12, 13, LOW, HIGH}) {
                Edges.refusedAlways("variable " + wrong, ARGUMENT, x -> x.score(wrong, 1));
            }
            for (int wrong : new int[] {-1, 100, LOW, HIGH}) {
                Edges.refusedAlways("score " + wrong, ARGUMENT, x -> x.score(1, wrong));
                Edges.refusedAlways("score " + wrong, ARGUMENT, x -> x.score(6, wrong));
            }
            Edges.refused("thirteen", ARGUMENT, () -> Halls.wide(12), x -> x.score(13, 0));
            Edges.refused("two of one", ARGUMENT, () -> Halls.wide(1), x -> x.score(2, 0));
        });
        edge("P11", "Tells the SIGN of a VARIABLE.", () -> {
            Hall x = Halls.wide(12);
            for (int v = 1; v <= 12; v += 11) {
                x.sign(v, false);
            }
            x.run(60);
            Check.due("CHOICES", "| -1 | 2 | 3 | 4 | 5 | 6 | 7 | 8 | 9 | 10 | 11 | -12", x.trailed());
            x.sign(1, true);
            Check.due("the TRAIL and the ANSWER stay", "1 -1", x.house(4) + " " + x.trail(0, 0));
        });
        edge("P11", "Returns that before.", () -> {
            Hall x = Halls.wide(12);
            for (int v = 1; v <= 12; v++) {
                Check.due("before", "true false false true", x.sign(v, false) + " " + x.sign(v, false) + " "
                        + x.sign(v, true) + " " + x.sign(v, v > 6));
            }
            Check.due("of each its own", "false false true true", x.sign(1, true) + " " + x.sign(6, true) + " "
                    + x.sign(7, true) + " " + x.sign(12, true));
        });
        edge("P11", "Throws `IllegalArgumentException` if variable is not 1 to WIDTH", () -> {
            for (int wrong : new int[] {0, 7, -1, -6, 12, 13, LOW, HIGH}) {
                Edges.refusedAlways("variable " + wrong, ARGUMENT, x -> x.sign(wrong, false));
            }
            Edges.refused("thirteen", ARGUMENT, () -> Halls.wide(12), x -> x.sign(13, false));
            Edges.refused("two of one", ARGUMENT, () -> Halls.wide(1), x -> x.sign(2, false));
        });
    }

    // ---- promises 12 to 14

    private static void promises12To14() {
        edge("P12", "Returns 1 a LITERAL became TRUE by a UNIT, 2 a CHOICE, 3 something was LEARNED, 4 the ANSWER is YES by"
                + " it, 5 it is NO by it; 0, if there was an ANSWER.", () -> {
            follow(Halls.jump(), new int[] {2, 2, 2, 1, 3, 1, 2, 2, 4, 0, 0}, "| 1", "| 1 | 2", "| 1 | 2 | 3",
                    "| 1 | 2 | 3 4", "| 1", "| 1 -3", "| 1 -3 | 2", "| 1 -3 | 2 | 4", "| 1 -3 | 2 | 4", "| 1 -3 | 2 | 4",
                    "| 1 -3 | 2 | 4");
            follow(Halls.noModel(), new int[] {2, 1, 3, 1, 1, 5, 0, 0}, "| -1", "| -1 2", "", "1", "1 3", "1 3", "1 3",
                    "1 3");
            Hall x = new Hall();
            x.add();
            Check.due("NO at once", "5 0", x.step() + " " + x.step());
        });
        edge("P13", "STEPS, as long as there is no ANSWER.", () -> {
            Hall x = Halls.pigeons();
            Hall y = Halls.pigeons();
            for (int n = 0; n < 81; n++) {
                Check.due("one", 1, x.run(1));
                y.step();
            }
            Check.due("as many steps", y.trailed() + y.digest(), x.trailed() + x.digest());
            Check.due("none behind the ANSWER", "2 0 0", x.house(4) + " " + x.run(1) + " " + x.run(60));
            Hall z = Halls.wide(1);
            Check.due("as far as the ANSWER", "2 1 | 1", z.run(2) + " " + z.house(4) + " " + z.trailed());
        });
        edge("P13", "`most`: how many at most", () -> {
            Check.due("one", "1 1", Halls.pigeons().run(1) + " " + oneStep());
            Hall x = Halls.pigeons();
            Check.due("sixty of 81", "60 0", x.run(60) + " " + x.house(4));
            Check.due("the others", "21 2", x.run(60) + " " + x.house(4));
        });
        edge("P13", "Returns how many were done.", () -> {
            Check.due("with YES", 7, new Hall().run(60));
            Check.due("just as many", 7, new Hall().run(7));
            Check.due("one less", 6, new Hall().run(6));
            Check.due("with NO", 6, Halls.noModel().run(60));
            Check.due("none", "0 0", Halls.answeredYes().run(60) + " " + Halls.answeredNo().run(1));
            Hall x = new Hall();
            x.add();
            Check.due("NO at once", "1 0", x.run(60) + " " + x.run(60));
        });
        edge("P13", "Throws `IllegalArgumentException` if most is not 1 to 60", () -> {
            for (int wrong : new int[] {0, 61, -1, LOW, HIGH}) {
                Edges.refusedAlways("run(" + wrong + ")", ARGUMENT, x -> x.run(wrong));
            }
        });
        edge("P14", "TO START ANEW.", () -> {
            Hall x = Halls.noModel();
            x.run(60);
            x.anew();
            Check.due("anew", "0 0 0 1 2", x.houses(4, 5, 6, 2, 7));
            Check.due("with what was LEARNED", "3 1 3 -1 3 2 4", x.run(60) + " " + x.trailed() + " " + x.line(2));
        });
        edge("P14", "Returns how many LITERALS were on the TRAIL.", () -> {
            Hall x = Halls.wide(12);
            Check.due("none", 0, x.anew());
            for (int n = 1; n <= 12; n++) {
                x.run(n);
                Check.due("so many", n, x.anew());
            }
            x.run(60);
            Check.due("all", "12 0", x.anew() + " " + x.anew());
            Check.due("with NO", 2, Halls.answeredNo().anew());
        });
    }

    private static int oneStep() {
        Hall x = new Hall();
        x.run(1);
        return x.house(6);
    }

    // ---- promises 15 to 17

    private static void promise15() {
        edge("P15", "LEARNED clauses are FORGOTTEN, one by one, as long as more than so many are there, and one is no REASON"
                + " on the TRAIL.", () -> {
            Forty f = new Forty(8, 1, 2, 3, 4, 5, 6, 7).pairs(36).ones(3, 4, 6, 7);
            f.untilLearned(1, 2, 5, 8);
            Hall x = f.hall;
            String before = x.trailed() + x.houses(4, 5, 6, 7, 13, 14);
            Check.due("39 may stay", "1 false true", x.forget(39) + " " + x.hasClause(30) + " " + x.hasClause(31));
            Check.due("36 may stay", "3 36 true false true", x.forget(36) + " " + x.house(2) + " " + x.hasClause(28) + " "
                    + x.hasClause(33) + " " + x.hasClause(34));
            Check.due("none may stay", "35 1 true", x.forget(0) + " " + x.house(2) + " " + x.hasClause(28));
            Check.due("the REASON stays", 0, x.forget(0));
            Check.due("the search goes on", before, x.trailed() + x.houses(4, 5, 6, 7, 13, 14));
            x.anew();
            Check.due("no REASON any more", "1 0", x.forget(0) + " " + x.house(2));
            Check.due("none is there", 0, x.forget(0));
        });
        edge("P15", "`most`: how many may stay", () -> {
            Hall x = new Forty(1, 2, 3, 4, 5, 6, 7, 8).pairs(36).ones(5, 6, 7, 8).hall;
            x.anew();
            Check.due("forty may stay", "0 40", x.forget(40) + " " + x.house(2));
            for (int most = 39; most >= 0; most--) {
                Check.due("one more goes", "1 " + most, x.forget(most) + " " + x.house(2));
                Check.due("that with the smallest number", false, x.hasClause(67 - most));
            }
        });
        edge("P15", "Returns how many were FORGOTTEN.", () -> {
            Hall x = new Forty(1, 2, 3, 4, 5, 6, 7, 8).pairs(36).ones(5, 6, 7, 8).hall;
            x.anew();
            Check.due("none", "0 0", x.forget(40) + " " + x.forget(40));
            Check.due("one, none, 38, one", "1 0 38 1 0", x.forget(39) + " " + x.forget(39) + " " + x.forget(1) + " "
                    + x.forget(0) + " " + x.forget(0));
            Check.due("of a new hall", "0 0", new Hall().forget(0) + " " + new Hall().forget(40));
            Hall y = new Forty(1, 2, 3, 4, 5, 6, 7, 8).pairs(36).ones(5, 6, 7, 8).hall;
            y.anew();
            Check.due("all forty", "40 0", y.forget(0) + " " + y.house(2));
        });
        edge("P15", "Throws `IllegalArgumentException` if most is not 0 to 40", () -> {
            for (int wrong : new int[] {-1, 41, LOW, HIGH}) {
                Edges.refusedAlways("forget(" + wrong + ")", ARGUMENT, x -> x.forget(wrong));
            }
        });
    }

    private static void promises16And17() {
        edge("P16", "Asks for the first MODEL of a hall that has none: it is counted.", () -> {
            Hall x = new Hall();
            for (int n = 1; n <= 300; n++) {
                x.blank();
            }
            Check.due("counted", "300 0", x.houses(8, 9));
            x.clear();
            x.wide(5);
            x.anew();
            Check.due("it stays", 300, x.house(8));
            Check.due("of another hall", 0, new Hall().house(8));
        });
        edge("P16", "Returns -9.", () -> {
            for (Edges.Recipe state : Halls.states()) {
                Hall x = state.make();
                Check.due("blank", "-9 -9", x.blank() + " " + x.blank());
            }
        });
        edge("P17", "Returns how often ever, with this.", () -> {
            Hall x = new Hall();
            Check.due("knock", "1 2 3", x.knock() + " " + x.knock() + " " + x.knock());
            x.blank();
            x.add(1);
            x.drop(0);
            x.clear();
            x.wide(1);
            Check.due("ever", "4 4 1", x.knock() + " " + x.houses(9, 8));
            Check.due("of another hall", 1, new Hall().knock());
        });
    }
}
