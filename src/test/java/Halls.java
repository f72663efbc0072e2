/** The halls that tests begin with; each is made anew, by the same calls. */
final class Halls {
    /** Codes that fill TYPED: 40 SIGNS, of which the first 20 are "a+a+ .. a+". */
    private static final String FORTY_SIGNS = "a+".repeat(20);

    private Halls() {
    }

    static Hall fresh() {
        return new Hall();
    }

    static Hall wide(int width) {
        Hall x = new Hall();
        x.wide(width);
        return x;
    }

    /** CLAUSES 0 to 3 without a MODEL; VARIABLE 1 is false first. */
    static Hall noModel() {
        Hall x = wide(3);
        x.tell(1, 2, 0, 0, 1);
        x.tell(1, -2, 0, 0, 2);
        x.tell(-1, 3, 0, 0, 3);
        x.tell(-1, -3, 0, 0, 4);
        x.sign(1, false);
        return x;
    }

    /** CLAUSES 0 and 1 that show only behind three CHOICES that 1 and 3 go ill together. */
    static Hall jump() {
        Hall x = wide(4);
        x.add(-1, -3, 4);
        x.add(-1, -3, -4);
        return x;
    }

    /** PARTS {1, 2, 4} and {3, 5}; 6 is of none, since CLAUSE 3 is ALWAYS TRUE. */
    static Hall parts() {
        Hall x = new Hall();
        x.tell(1, 2, 0, 0, 5);
        x.tell(-2, 4, 0, 0, 6);
        x.tell(-3, 5, 0, 0, 7);
        x.tell(6, -6, 1, 0, 8);
        return x;
    }

    /** Four into three do not go: CLAUSES 0 to 21, and a search of 81 STEPS that ends with NO. */
    static Hall pigeons() {
        Hall x = wide(12);
        for (int hole = 0; hole < 3; hole++) {
            x.atMost(0b001001001001 << hole, 1);
        }
        for (int pigeon = 0; pigeon < 4; pigeon++) {
            x.add(pigeon * 3 + 1, pigeon * 3 + 2, pigeon * 3 + 3);
        }
        return x;
    }

    // ---- states of WIDTH 6 in which calls are refused

    /** In the midst of a search: LEARNED clause 4, a LINE, TRAIL "| -6 | 1 -3 | 2 5", TYPED "a+". */
    static Hall searching() {
        Hall x = new Hall();
        x.tell(-1, -3, 4, 0, 1);
        x.tell(-1, -3, -4, 0, 2);
        x.tell(-2, 5, 0, 0, 3);
        x.tell(5, -5, 6, 0, 4);
        x.type("a+");
        x.score(6, 42);
        x.sign(6, false);
        x.blank();
        x.knock();
        x.knock();
        x.run(10);
        return x;
    }

    static Hall answeredYes() {
        Hall x = searching();
        x.run(60);
        return x;
    }

    static Hall answeredNo() {
        Hall x = new Hall();
        x.add(1, 2);
        x.add(1, -2);
        x.add(-1, 3);
        x.add(-1, -3);
        x.run(60);
        return x;
    }

    /** 30 told CLAUSES, one LEARNED, 40 SIGNS. */
    static Hall full() {
        Hall x = new Hall();
        x.add(-1, -3, 4);
        x.add(-1, -3, -4);
        x.fill(28);
        x.type(FORTY_SIGNS);
        x.run(7);
        return x;
    }

    static Edges.Recipe[] states() {
        return new Edges.Recipe[] {Halls::fresh, Halls::searching, Halls::answeredYes, Halls::answeredNo,
            Halls::full};
    }
}
