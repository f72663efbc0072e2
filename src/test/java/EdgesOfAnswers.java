/** The document's sentences on what is asked of CLAUSES and the search: promises 18 to 23. */
final class EdgesOfAnswers {
    private static final Class<?> ARGUMENT = Edges.ARGUMENT;
    private static final Class<?> INDEX = Edges.INDEX;
    private static final int LOW = Edges.LOW;
    private static final int HIGH = Edges.HIGH;

    private EdgesOfAnswers() {
    }

    static void run() {
        promise18();
        promise19();
        promises20And21();
        promise22();
        promise23();
    }

    private static void edge(String section, String sentence, Edges.Test test) {
        Edges.edge(section, sentence, test);
    }

    // ---- promise 18

    private static void promise18() {
        edge("P18", "`clause`: the number of a CLAUSE that is there, told or LEARNED", () -> {
            Hall x = Halls.searching();
            Check.due("told", "-1 -3 4, 5 -5 6", x.clause(0) + ", " + x.clause(3));
            Check.due("LEARNED", "-1 -3", x.clause(4));
            Hall y = Halls.full();
            Check.due("the thirtieth, and a LEARNED one", "1 -1, -1 -3", y.clause(29) + ", " + y.clause(30));
        });
        edge("P18", "Returns its LITERALS in their order, with a blank between two; \"-\" if it is empty.", () -> {
            Hall x = Halls.wide(12);
            x.add();
            x.add(-12);
            x.add(2, 1);
            x.add(-12, 12, -1, 1);
            Check.due("none, one, two, four", "-, -12, 1 2, 1 -1 12 -12", x.clauses(0, 4));
        });
        edge("P18", "Throws `IndexOutOfBoundsException` if there is no such CLAUSE", () -> {
            for (int wrong : new int[] {-1, 31, LOW, HIGH}) {
                Edges.refusedAlways("clause(" + wrong + ")", INDEX, x -> x.clause(wrong));
            }
            Edges.refused("none is there", INDEX, Hall::new, x -> x.clause(0));
            Edges.refused("that comes next", INDEX, Halls::searching, x -> x.clause(5));
            Edges.refused("dropped", INDEX, EdgesOfAnswers::oneDropped, x -> x.clause(1));
            Edges.refused("gone with it", INDEX, EdgesOfAnswers::oneDropped, x -> x.clause(4));
            Edges.refused("FORGOTTEN", INDEX, EdgesOfAnswers::oneForgotten, x -> x.clause(4));
        });
    }

    private static Hall oneDropped() {
        Hall x = Halls.searching();
        x.drop(1);
        return x;
    }

    private static Hall oneForgotten() {
        Hall x = Halls.answeredNo();
        x.anew();
        x.forget(0);
        return x;
    }

    // ---- promise 19

    private static void promise19() {
        edge("P19", "`clause`: the number of a CLAUSE that is there, told or LEARNED", () -> {
            Hall x = Halls.searching();
            Check.due("the first one", "3 0 1 0 0 0 0 -1", x.ofs(0, 0, 1, 2, 3, 4, 5, 6, 7));
            Check.due("the last one told", "3 0 4 0 1 0 0 -1", x.ofs(3, 0, 1, 2, 3, 4, 5, 6, 7));
            Check.due("LEARNED", "2 1 0 0 0 0 1 -1", x.ofs(4, 0, 1, 2, 3, 4, 5, 6, 7));
        });
        edge("P19", "`what`: 0 how many LITERALS, 1 1 if it is LEARNED, otherwise 0, 2 WEIGHT (0 of a LEARNED one), 3 USE (0 of a"
                + " told one), 4 1 if it is ALWAYS TRUE, otherwise 0", () -> {
            Hall x = Halls.answeredNo();
            x.tell(0, 0, 0, 0, 9);
            x.tell(1, -1, 2, -2, 0);
            Check.due("told, a CONFLICT and a REASON", "2 0 1 0 0", x.ofs(3, 0, 1, 2, 3, 4));
            Check.due("LEARNED", "1 1 0 1 0", x.ofs(4, 0, 1, 2, 3, 4));
            Check.due("empty", "0 0 9 0 0", x.ofs(5, 0, 1, 2, 3, 4));
            Check.due("ALWAYS TRUE", "4 0 0 0 1", x.ofs(6, 0, 1, 2, 3, 4));
            Hall y = Halls.noModel();
            y.run(60);
            Check.due("USE", "0 0 0 0 1", y.ofClause(0, 3) + " " + y.ofClause(1, 3) + " " + y.ofClause(2, 3) + " "
                    + y.ofClause(3, 3) + " " + y.ofClause(4, 3));
        });
        edge("P19", "5 now 0 TRUE, 1 FALSE, 2 UNIT, 3 else, 6 1 if it is a REASON on the TRAIL, otherwise 0", () -> {
            Hall x = Halls.wide(3);
            x.add(-1, 2);
            x.add(-1, -2, 3);
            x.add(-3, -2);
            x.add(3, 2);
            x.add();
            x.drop(4);
            Check.due("else", "3 3 3 3", x.ofClause(0, 5) + " " + x.ofClause(1, 5) + " " + x.ofClause(2, 5) + " "
                    + x.ofClause(3, 5));
            x.step();
            Check.due("UNIT, no REASON yet", "2 0", x.ofs(0, 5, 6));
            x.step();
            Check.due("TRUE, a REASON", "0 1", x.ofs(0, 5, 6));
            Check.due("UNIT", "2 0, 2 0, 0 0", x.ofs(1, 5, 6) + ", " + x.ofs(2, 5, 6) + ", " + x.ofs(3, 5, 6));
            x.step();
            Check.due("FALSE", "0 1, 1 0, 0 0", x.ofs(1, 5, 6) + ", " + x.ofs(2, 5, 6) + ", " + x.ofs(3, 5, 6));
            x.step();
            Check.due("no REASON behind the JUMP", "0 0", x.ofClause(0, 6) + " " + x.ofClause(1, 6));
        });
        edge("P19", "7 the smallest other told CLAUSE that is IN it (NONE without; told ones can be IN a LEARNED one, too, by"
                + " the same rule)", EdgesOfAnswers::tellsWhoIsIn);
        edge("P19", "Throws `IndexOutOfBoundsException` if there is no such CLAUSE", () -> {
            for (int what = -1; what <= 8; what++) {
                int one = what;
                Edges.refused("-1, " + what, INDEX, Halls::searching, x -> x.ofClause(-1, one));
                Edges.refused("5, " + what, INDEX, Halls::searching, x -> x.ofClause(5, one));
                Edges.refused("0, " + what, INDEX, Hall::new, x -> x.ofClause(0, one));
            }
            for (int wrong : new int[] {-1, 31, LOW, HIGH}) {
                Edges.refusedAlways("ofClause(" + wrong + ", 0)", INDEX, x -> x.ofClause(wrong, 0));
            }
            Edges.refused("dropped", INDEX, EdgesOfAnswers::oneDropped, x -> x.ofClause(1, 0));
            Edges.refused("FORGOTTEN", INDEX, EdgesOfAnswers::oneForgotten, x -> x.ofClause(4, 1));
        });
        edge("P19", "Throws `IllegalArgumentException` if what is not 0 to 7", () -> {
            for (int wrong : new int[] {-1, 8, LOW, HIGH}) {
                Edges.refused("told, " + wrong, ARGUMENT, Halls::searching, x -> x.ofClause(0, wrong));
                Edges.refused("LEARNED, " + wrong, ARGUMENT, Halls::searching, x -> x.ofClause(4, wrong));
                Edges.refused("the last one, " + wrong, ARGUMENT, Halls::full, x -> x.ofClause(30, wrong));
            }
        });
    }

    private static void tellsWhoIsIn() {
        Hall x = Halls.jump();
        Check.due("NONE", "-1 -1", x.ofClause(0, 7) + " " + x.ofClause(1, 7));
        x.run(60);
        Check.due("NONE is IN a LEARNED one", -1, x.ofClause(2, 7));
        Check.due("LEARNED ones are IN none", "-1 -1", x.ofClause(0, 7) + " " + x.ofClause(1, 7));
        x.add(-3, -1);
        Check.due("told behind it, with its LITERALS", -1, x.ofClause(2, 7));
        Check.due("with fewer LITERALS", "3 3 -1", x.ofClause(0, 7) + " " + x.ofClause(1, 7) + " " + x.ofClause(3, 7));
        x.add(-1);
        Check.due("told behind it, with fewer LITERALS", "3 3 4 4 -1", x.ofClause(0, 7) + " " + x.ofClause(1, 7) + " "
                + x.ofClause(2, 7) + " " + x.ofClause(3, 7) + " " + x.ofClause(4, 7));
        x.add();
        Check.due("the empty one is IN all", "3 3 4 4 5 -1", x.ofClause(0, 7) + " " + x.ofClause(1, 7) + " "
                + x.ofClause(2, 7) + " " + x.ofClause(3, 7) + " " + x.ofClause(4, 7) + " " + x.ofClause(5, 7));
        x.add();
        Check.due("of two empty ones", "-1 5", x.ofClause(5, 7) + " " + x.ofClause(6, 7));
        Hall y = new Hall();
        y.add(3);
        y.add(3, 4);
        y.add(3);
        Check.due("CLAUSE 0 is IN others", "-1 0 0", y.ofClause(0, 7) + " " + y.ofClause(1, 7) + " " + y.ofClause(2, 7));
    }

    // ---- promises 20 and 21

    private static void promises20And21() {
        edge("P20", "`what`: 0 the LITERAL at that place of the TRAIL, from 0 on, 1 its LEVEL, 2 its REASON (NONE of a"
                + " CHOICE)", () -> {
            Hall x = Halls.searching();
            Check.due("TRAIL", "| -6 | 1 -3 | 2 5", x.trailed());
            int[][] due = {{-6, 1, -1}, {1, 2, -1}, {-3, 2, 4}, {2, 3, -1}, {5, 3, 2}};
            for (int nth = 0; nth < 5; nth++) {
                for (int what = 0; what < 3; what++) {
                    Check.due("trail(" + nth + ", " + what + ")", due[nth][what], x.trail(nth, what));
                }
            }
            Hall y = Halls.wide(12);
            y.run(60);
            Check.due("the twelfth", "12 12 -1", y.trail(11, 0) + " " + y.trail(11, 1) + " " + y.trail(11, 2));
            Hall z = Halls.answeredNo();
            Check.due("LEVEL 0", "-1 0 4", z.trail(0, 0) + " " + z.trail(0, 1) + " " + z.trail(0, 2));
        });
        edge("P20", "Throws `IndexOutOfBoundsException` if the TRAIL has no such place", () -> {
            for (int wrong : new int[] {-1, 6, 12, LOW, HIGH}) {
                for (int what = -1; what <= 3; what++) {
                    int one = what;
                    Edges.refusedAlways("trail(" + wrong + ", " + what + ")", INDEX, x -> x.trail(wrong, one));
                }
            }
            Edges.refused("none", INDEX, Hall::new, x -> x.trail(0, 0));
            Edges.refused("behind the last one", INDEX, Halls::searching, x -> x.trail(5, 0));
            Edges.refused("anew", INDEX, EdgesOfAnswers::oneForgotten, x -> x.trail(0, 0));
            Edges.refused("thirteen", INDEX, EdgesOfAnswers::twelveChosen, x -> x.trail(12, 0));
        });
        edge("P20", "Throws `IllegalArgumentException` if what is not 0 to 2", () -> {
            for (int wrong : new int[] {-1, 3, LOW, HIGH}) {
                Edges.refused("first, " + wrong, ARGUMENT, Halls::searching, x -> x.trail(0, wrong));
                Edges.refused("last, " + wrong, ARGUMENT, Halls::searching, x -> x.trail(4, wrong));
                Edges.refused("NO, " + wrong, ARGUMENT, Halls::answeredNo, x -> x.trail(0, wrong));
            }
        });
        edge("P21", "Returns LITERALS of the TRAIL, with a blank between two, and \"|\" and a blank ahead of each CHOICE; \"\""
                + " without any.", () -> {
            Hall x = new Hall();
            Check.due("none", "", x.trailed());
            x.step();
            Check.due("a CHOICE", "| 1", x.trailed());
            x.step();
            Check.due("two", "| 1 | 2", x.trailed());
            x.add(-4);
            x.step();
            Check.due("no CHOICE", "-4", x.trailed());
            x.step();
            Check.due("then a CHOICE", "-4 | 1", x.trailed());
            x.anew();
            Check.due("none", "", x.trailed());
            Check.due("twelve", "| 1 | 2 | 3 | 4 | 5 | 6 | 7 | 8 | 9 | 10 | 11 | 12", twelveChosen().trailed());
        });
    }

    private static Hall twelveChosen() {
        Hall x = Halls.wide(12);
        x.run(60);
        return x;
    }

    // ---- promise 22

    private static void promise22() {
        edge("P22", "`nth`: a LINE of the PROOF, from 0 on", () -> {
            Hall x = Halls.noModel();
            x.run(60);
            Check.due("first and last", "4 1 0: -1 3 2 4", x.line(0) + ": " + x.line(1));
        });
        edge("P22", "Returns its numbers, with a blank between two; \"!\" if there are not so many.", () -> {
            Check.due("none", "! ! !", new Hall().line(0) + " " + new Hall().line(1) + " " + new Hall().line(HIGH));
            Hall x = Halls.noModel();
            x.run(60);
            Check.due("behind the last one", "! ! !", x.line(2) + " " + x.line(3) + " " + x.line(HIGH));
            Hall y = new Hall();
            y.add();
            for (int n = 0; n < 200; n++) {
                y.run(60);
                y.anew();
            }
            Check.due("two hundred", "200: -1 0: -1 0: !", y.house(7) + ": " + y.line(0) + ": " + y.line(199) + ": "
                    + y.line(200));
            y.clear();
            Check.due("emptied", "0 !", y.house(7) + " " + y.line(0));
            Hall z = Halls.pigeons();
            z.run(60);
            z.run(60);
            Check.due("a long one", z.house(7) - 1, lastLine(z));
            Check.due("a long one", true, z.line(z.house(7) - 1).split(" ").length > 8);
        });
        edge("P22", "Throws `IllegalArgumentException` if nth is below 0", () -> {
            for (int wrong : new int[] {-1, -2, LOW}) {
                Edges.refusedAlways("line(" + wrong + ")", ARGUMENT, x -> x.line(wrong));
            }
        });
    }

    /** Which LINE is the first one that begins with NONE. */
    private static int lastLine(Hall x) {
        for (int nth = 0; nth < x.house(7); nth++) {
            if (x.line(nth).startsWith("-1 ")) {
                return nth;
            }
        }
        return -1;
    }

    // ---- promise 23

    private static void house(String sentence, Edges.Test test) {
        edge("P23", sentence, test);
    }

    private static void promise23() {
        house("`what`: 0 WIDTH, 1 told CLAUSES, 2 LEARNED ones that are there, 3 how many came ever, told or LEARNED", () -> {
            Check.due("new", "6 0 0 0", new Hall().houses(0, 1, 2, 3));
            Check.due("wide", "12 1", Halls.wide(12).house(0) + " " + Halls.wide(1).house(0));
            Hall x = Halls.full();
            Check.due("full", "6 30 1 31", x.houses(0, 1, 2, 3));
            x.anew();
            x.forget(0);
            x.drop(0);
            Check.due("one each is gone", "6 29 0 31", x.houses(0, 1, 2, 3));
            x.clear();
            Check.due("all are gone", "6 0 0 31", x.houses(0, 1, 2, 3));
        });
        house("4 ANSWER, 5 LEVEL, 6 LITERALS on the TRAIL, 7 LINES of the PROOF", () -> {
            Check.due("new", "0 0 0 0", new Hall().houses(4, 5, 6, 7));
            Check.due("searching", "0 3 5 1", Halls.searching().houses(4, 5, 6, 7));
            Check.due("YES", "1 4 6 1", Halls.answeredYes().houses(4, 5, 6, 7));
            Check.due("NO", "2 0 2 2", Halls.answeredNo().houses(4, 5, 6, 7));
            Check.due("twelve", "1 12 12 0", twelveChosen().houses(4, 5, 6, 7));
        });
        house("8 how often -9 was told, 9 how often it was knocked", () -> {
            Hall x = new Hall();
            Check.due("never", "0 0", x.houses(8, 9));
            x.blank();
            Check.due("-9 once", "1 0", x.houses(8, 9));
            x.knock();
            x.knock();
            Check.due("knocked twice", "1 2", x.houses(8, 9));
        });
        house("10 WEIGHT of all told ones together", () -> {
            Hall x = new Hall();
            Check.due("none", 0, x.house(10));
            for (int n = 0; n < 30; n++) {
                x.tell(1, -1, 0, 0, 9);
            }
            Check.due("the greatest", 270, x.house(10));
            x.drop(0);
            Check.due("without one", 261, x.house(10));
            x.weigh(1, 0);
            Check.due("weighed", 252, x.house(10));
            Check.due("LEARNED ones have none", "10 10", Halls.searching().house(10) + " " + Halls.answeredYes().house(10));
        });
        house("11 PARTS, 12 how many SIGNS are TYPED", () -> {
            Hall x = Halls.wide(12);
            Check.due("none", "0 0", x.houses(11, 12));
            x.atMost(4095, 0);
            Check.due("twelve", 12, x.house(11));
            x.add(1, 2);
            x.add(3, 4, 5, 6);
            Check.due("joined", 8, x.house(11));
            x.add();
            x.add(7, -7, 8, 9);
            Check.due("the empty one and ALWAYS TRUE ones join none", 8, x.house(11));
            x.type("a+".repeat(20));
            Check.due("forty", 40, x.house(12));
            Check.due("the empty one is no PART", 0, emptyHall().house(11));
        });
        house("13 CHOICES that were ever made, 14 LEARNINGS ever (LAST ones, too)", () -> {
            Check.due("new", "0 0", new Hall().houses(13, 14));
            Check.due("searching", "5 1", Halls.searching().houses(13, 14));
            Hall x = Halls.noModel();
            x.run(60);
            Check.due("NO", "1 2", x.houses(13, 14));
            x.anew();
            x.run(60);
            Check.due("NO again", "1 3", x.houses(13, 14));
            x.clear();
            x.wide(12);
            x.run(60);
            Check.due("ever", "13 3", x.houses(13, 14));
        });
        house("15 VARIABLES that stand in no told CLAUSE (ALWAYS TRUE ones aside)", () -> {
            for (int width = 1; width <= 12; width++) {
                Hall x = Halls.wide(width);
                Check.due("all", width, x.house(15));
                x.add(1, -1, width);
                x.add();
                Check.due("all but for ALWAYS TRUE and empty ones", width, x.house(15));
                x.add(-width);
                Check.due("without the last one", width - 1, x.house(15));
                x.atMost((1 << width) - 1, 0);
                Check.due("none", 0, x.house(15));
            }
        });
        edge("P23", "Throws `IllegalArgumentException` if what is not 0 to 15", () -> {
            for (int wrong : new int[] {-1, 16, LOW, HIGH}) {
                Edges.refusedAlways("house(" + wrong + ")", ARGUMENT, x -> x.house(wrong));
            }
        });
    }

    private static Hall emptyHall() {
        Hall x = new Hall();
        x.add();
        return x;
    }
}
