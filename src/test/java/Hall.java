import java.util.Arrays;

/**
 * A Clausehall that counts its calls, refused ones too: what it answers behind the 512th is free, so no
 * test may ask for it.
 */
final class Hall {
    static final int MOST_CALLS = 512;
    private static final String SIGNS = "abcdefghijkl!*+>=()";
    private static final int ALL_BACK = 20;

    private final Clausehall hall = new Clausehall();
    private int calls;

    private Clausehall called() {
        calls++;
        if (calls > MOST_CALLS) {
            throw new AssertionError("a test makes more than 512 calls of one object");
        }
        return hall;
    }

    int calls() {
        return calls;
    }

    // ---- the face

    int wide(int width) {
        return called().wide(width);
    }

    int tell(int a, int b, int c, int d, int weight) {
        return called().tell(a, b, c, d, weight);
    }

    int drop(int clause) {
        return called().drop(clause);
    }

    int weigh(int clause, int weight) {
        return called().weigh(clause, weight);
    }

    int atMost(int variables, int many) {
        return called().atMost(variables, many);
    }

    int say(int a, int b, int c, int d, int e, int f) {
        return called().say(a, b, c, d, e, f);
    }

    int sentence() {
        return called().sentence();
    }

    int clear() {
        return called().clear();
    }

    int score(int variable, int score) {
        return called().score(variable, score);
    }

    boolean sign(int variable, boolean is) {
        return called().sign(variable, is);
    }

    int step() {
        return called().step();
    }

    int run(int most) {
        return called().run(most);
    }

    int anew() {
        return called().anew();
    }

    int forget(int most) {
        return called().forget(most);
    }

    int blank() {
        return called().blank();
    }

    int knock() {
        return called().knock();
    }

    String clause(int clause) {
        return called().clause(clause);
    }

    int ofClause(int clause, int what) {
        return called().ofClause(clause, what);
    }

    int trail(int nth, int what) {
        return called().trail(nth, what);
    }

    String trailed() {
        return called().trailed();
    }

    String line(int nth) {
        return called().line(nth);
    }

    int house(int what) {
        return called().house(what);
    }

    String typed() {
        return called().typed();
    }

    int fault() {
        return called().fault();
    }

    int models() {
        return called().models();
    }

    String model(int nth) {
        return called().model(nth);
    }

    String fixed() {
        return called().fixed();
    }

    int part(int part, boolean isModels) {
        return called().part(part, isModels);
    }

    int ofVariable(int variable, int what) {
        return called().ofVariable(variable, what);
    }

    int assume(int yes, int no) {
        return called().assume(yes, no);
    }

    String failing(int yes, int no) {
        return called().failing(yes, no);
    }

    String follows(int yes, int no) {
        return called().follows(yes, no);
    }

    String core() {
        return called().core();
    }

    int leastCore() {
        return called().leastCore();
    }

    int best(boolean isModel) {
        return called().best(isModel);
    }

    boolean isSound() {
        return called().isSound();
    }

    long digest() {
        return called().digest();
    }

    // ---- several calls

    /** Types one code. */
    int code(int code) {
        return say(code, -1, -1, -1, -1, -1);
    }

    /** Types a text, six SIGNS a call. */
    Hall type(String text) {
        int[] codes = new int[6];
        for (int from = 0; from < text.length(); from += 6) {
            for (int n = 0; n < 6; n++) {
                codes[n] = from + n < text.length() ? SIGNS.indexOf(text.charAt(from + n)) : -1;
            }
            say(codes[0], codes[1], codes[2], codes[3], codes[4], codes[5]);
        }
        return this;
    }

    /** Takes TYPED off and types another text. */
    Hall retype(String text) {
        code(ALL_BACK);
        return type(text);
    }

    /** Tells a CLAUSE of up to four LITERALS with WEIGHT 1. */
    int add(int... literals) {
        int[] four = Arrays.copyOf(literals, 4);
        return tell(four[0], four[1], four[2], four[3], 1);
    }

    /** Tells so many CLAUSES that are ALWAYS TRUE. */
    Hall fill(int many) {
        for (int n = 0; n < many; n++) {
            add(1, -1);
        }
        return this;
    }

    boolean hasClause(int number) {
        try {
            clause(number);
            return true;
        } catch (IndexOutOfBoundsException e) {
            return false;
        }
    }

    /** The numbers house() tells of these, with a blank between two. */
    String houses(int... whats) {
        StringBuilder s = new StringBuilder();
        for (int what : whats) {
            s.append(s.length() == 0 ? "" : " ").append(house(what));
        }
        return s.toString();
    }

    /** The texts of the CLAUSES from one number on, with ", " between two. */
    String clauses(int from, int many) {
        StringBuilder s = new StringBuilder();
        for (int n = 0; n < many; n++) {
            s.append(n == 0 ? "" : ", ").append(clause(from + n));
        }
        return s.toString();
    }

    /** What ofClause() tells of one CLAUSE for these, with a blank between two. */
    String ofs(int clause, int... whats) {
        StringBuilder s = new StringBuilder();
        for (int what : whats) {
            s.append(s.length() == 0 ? "" : " ").append(ofClause(clause, what));
        }
        return s.toString();
    }
}
