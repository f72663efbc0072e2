/** At least one test for each of the promises 1 to 38, worked out by hand from DOC.md. */
public final class PromiseTests {
    private static final Class<?> ARGUMENT = IllegalArgumentException.class;
    private static final Class<?> STATE = IllegalStateException.class;
    private static final Class<?> INDEX = IndexOutOfBoundsException.class;
    private static final int LOW = Integer.MIN_VALUE;
    private static final int HIGH = Integer.MAX_VALUE;

    private PromiseTests() {
    }

    // ---- helpers

    private static Hall typing(int... codes) {
        Hall x = new Hall();
        type(x, codes);
        return x;
    }

    private static void type(Hall x, int... codes) {
        for (int code : codes) {
            x.say(code, -1, -1, -1, -1, -1);
        }
    }

    /** In few calls what a change would show in; EdgeTests compare all. */
    private static String all(Hall x) {
        return x.trailed() + ";" + x.typed() + ";" + x.digest();
    }

    private static void failsUnchanged(String name, Hall x, Class<?> want, Check.Call call) {
        String before = all(x);
        Check.fails(name, want, call);
        Check.due(name + " changes nothing", before, all(x));
    }

    // ---- clauses

    private static void promise1() {
        Hall x = new Hall();
        int[] want = {6, 0, 0, 0, 0, 0, 0, 0, 0, 0, 0, 0, 0, 0, 0, 6};
        for (int what = 0; what <= 15; what++) {
            Check.due("1 house(" + what + ")", want[what], x.house(what));
        }
        Check.due("1 typed", "", x.typed());
        Check.due("1 trailed", "", x.trailed());
        Check.due("1 models", 64, x.models());
        Check.due("1 score", 0, x.score(6, 1));
        Check.due("1 sign", true, x.sign(6, false));
        Check.due("1 apart", 0, new Hall().score(6, 1));
    }

    private static void promise2() {
        Hall x = new Hall();
        Check.due("2 wide", 6, x.wide(12));
        Check.due("2 wide", 12, x.wide(12));
        Check.due("2 models", 4096, x.models());
        x.score(12, 7);
        x.sign(12, false);
        x.run(60);
        Check.due("2 answer", 1, x.house(4));
        Check.due("2 wide", 12, x.wide(1));
        Check.due("2 begins again", "0 0", x.house(4) + " " + x.house(6));
        Check.due("2 models", 2, x.models());
        Check.fails("2 score", ARGUMENT, () -> x.score(2, 1));
        x.wide(12);
        Check.due("2 scores stay", 7, x.score(12, 8));
        Check.due("2 signs stay", false, x.sign(12, true));
        for (int wrong : new int[] {0, 13, -1, LOW, HIGH}) {
            failsUnchanged("2 wide(" + wrong + ")", x, ARGUMENT, () -> x.wide(wrong));
        }
        int clause = x.tell(0, 0, 0, 0, 0);
        failsUnchanged("2 wide", x, STATE, () -> x.wide(5));
        failsUnchanged("2 wide", x, ARGUMENT, () -> x.wide(13));
        x.drop(clause);
        Check.due("2 wide", 12, x.wide(5));
    }

    private static void promise3() {
        Hall x = new Hall();
        Check.due("3 tell", 0, x.tell(6, -1, 6, 0, 9));
        Check.due("3 literals", "-1 6", x.clause(0));
        Check.due("3 tell", 1, x.tell(0, 0, 0, 0, 0));
        Check.due("3 empty", "-", x.clause(1));
        for (int wrong : new int[] {7, -7, LOW, HIGH}) {
            failsUnchanged("3 a " + wrong, x, ARGUMENT, () -> x.tell(wrong, 0, 0, 0, 0));
            failsUnchanged("3 b " + wrong, x, ARGUMENT, () -> x.tell(0, wrong, 0, 0, 0));
            failsUnchanged("3 c " + wrong, x, ARGUMENT, () -> x.tell(0, 0, wrong, 0, 0));
            failsUnchanged("3 d " + wrong, x, ARGUMENT, () -> x.tell(0, 0, 0, wrong, 0));
        }
        failsUnchanged("3 weight", x, ARGUMENT, () -> x.tell(1, 0, 0, 0, -1));
        failsUnchanged("3 weight", x, ARGUMENT, () -> x.tell(1, 0, 0, 0, 10));
        for (int n = 2; n < 30; n++) {
            Check.due("3 tell", n, x.tell(1, 2, 3, 4, 1));
        }
        failsUnchanged("3 thirty", x, STATE, () -> x.tell(1, 0, 0, 0, 1));
        failsUnchanged("3 thirty", x, ARGUMENT, () -> x.tell(7, 0, 0, 0, 1));
        Hall y = Halls.jump();
        y.run(60);
        Check.due("3 tell", 3, y.tell(4, 0, 0, 0, 1));
        Check.due("3 starts anew", "0 0 1 1", y.house(4) + " " + y.house(6) + " " + y.house(2) + " " + y.house(7));
    }

    private static void promise4() {
        Hall x = Halls.jump();
        x.run(60);
        failsUnchanged("4 learned", x, INDEX, () -> x.drop(2));
        for (int wrong : new int[] {3, -1, LOW, HIGH}) {
            failsUnchanged("4 drop(" + wrong + ")", x, INDEX, () -> x.drop(wrong));
        }
        Check.due("4 drop", 1, x.drop(0));
        Check.due("4 begins again", "0 0 0 0",
                x.house(4) + " " + x.house(6) + " " + x.house(2) + " " + x.house(7));
        failsUnchanged("4 again", x, INDEX, () -> x.drop(0));
        Check.due("4 other", "-1 -3 -4", x.clause(1));
        Check.due("4 number", 3, x.tell(1, 0, 0, 0, 0));
        Check.due("4 drop", 1, x.drop(1));
        Check.due("4 drop", 0, x.drop(3));
        Check.due("4 models", 16, x.models());
    }

    private static void promise5() {
        Hall x = Halls.jump();
        x.run(60);
        Check.due("5 weigh", 1, x.weigh(0, 9));
        Check.due("5 weigh", 9, x.weigh(0, 0));
        Check.due("5 weigh", 0, x.weigh(0, 8));
        Check.due("5 house", 9, x.house(10));
        Check.due("5 best", 9, x.best(false));
        Check.due("5 goes on", 1, x.house(4));
        failsUnchanged("5 weight", x, ARGUMENT, () -> x.weigh(0, 10));
        failsUnchanged("5 weight", x, ARGUMENT, () -> x.weigh(1, -1));
        failsUnchanged("5 learned", x, INDEX, () -> x.weigh(2, 1));
        failsUnchanged("5 both", x, INDEX, () -> x.weigh(9, 10));
        failsUnchanged("5 below", x, INDEX, () -> x.weigh(LOW, 1));
    }

    private static void promise6() {
        Hall x = new Hall();
        Check.due("6 atMost", 6, x.atMost(0b101101, 1));
        String[] want = {"-1 -3", "-1 -4", "-1 -6", "-3 -4", "-3 -6", "-4 -6"};
        for (int n = 0; n < 6; n++) {
            Check.due("6 clause", want[n], x.clause(n));
            Check.due("6 weight", 1, x.ofClause(n, 2));
        }
        Check.due("6 models", 5 * 4, x.models());
        x.step();
        Check.due("6 none", 0, x.atMost(0, 0));
        Check.due("6 starts anew", 0, x.house(6));
        Check.due("6 few", 0, x.atMost(7, 3));
        Check.due("6 three", 5, x.atMost(31, 3));
        Check.due("6 clause", "-1 -2 -3 -4", x.clause(6));
        Check.due("6 clause", "-2 -3 -4 -5", x.clause(10));
        Check.due("6 zero", 6, x.atMost(63, 0));
        Check.due("6 clause", "-6", x.clause(16));
        failsUnchanged("6 many", x, STATE, () -> x.atMost(63, 1));
        failsUnchanged("6 set", x, ARGUMENT, () -> x.atMost(64, 1));
        failsUnchanged("6 set", x, ARGUMENT, () -> x.atMost(-1, 1));
        failsUnchanged("6 many", x, ARGUMENT, () -> x.atMost(63, -1));
        failsUnchanged("6 many", x, ARGUMENT, () -> x.atMost(63, 4));
        Check.due("6 eleven", 10, x.atMost(0b11111, 1));
        Check.due("6 all", 27, x.house(1));
        Check.due("6 thirty", 3, x.atMost(0b111, 0));
        Check.due("6 thirty", 0, x.atMost(0b1, 1));
        failsUnchanged("6 thirty", x, STATE, () -> x.atMost(0b1, 0));
    }

    private static void promise7() {
        Hall x = new Hall();
        Check.due("7 say", 6, x.say(0, 11, 12, 13, 14, 15));
        Check.due("7 say", 9, x.say(16, -1, 17, 18, -1, -1));
        Check.due("7 typed", "al!*+>=()", x.typed());
        Check.due("7 back", 8, x.say(19, -1, -1, -1, -1, -1));
        Check.due("7 all back", 1, x.say(20, 19, 19, 1, 19, 2));
        Check.due("7 typed", "c", x.typed());
        for (int n = 0; n < 13; n++) {
            x.say(0, 1, 2, -1, -1, -1);
        }
        Check.due("7 forty", 40, x.say(-1, -1, -1, -1, -1, -1));
        failsUnchanged("7 more", x, STATE, () -> x.say(0, 20, -1, -1, -1, -1));
        failsUnchanged("7 at some moment", x, STATE, () -> x.say(19, 0, 0, 19, 19, 20));
        failsUnchanged("7 code", x, ARGUMENT, () -> x.say(0, 0, 0, 0, 0, 21));
        failsUnchanged("7 code", x, ARGUMENT, () -> x.say(-2, 0, 0, 0, 0, 0));
        failsUnchanged("7 code", x, ARGUMENT, () -> x.say(0, 0, LOW, 0, 0, 0));
        Check.due("7 in time", 40, x.say(19, 5, 19, 6, -1, -1));
        Check.due("7 all", 5, x.say(20, 0, 0, 0, 0, 0));
    }

    private static void promise8() {
        Hall x = typing(0, 16, 2);
        x.step();
        Check.due("8 sentence", 2, x.sentence());
        Check.due("8 stays", "a=c", x.typed());
        Check.due("8 starts anew", 0, x.house(6));
        Check.due("8 clauses", "1 -3/-1 3/1", x.clause(0) + "/" + x.clause(1) + "/" + x.ofClause(1, 2));
        type(x, 20, 0, 14, 12, 0);
        x.step();
        Check.due("8 none", 0, x.sentence());
        Check.due("8 starts anew", 0, x.house(6));
        promise8Nothing(x);
        type(x, 20, 0, 13, 1, 13, 2, 13, 3);
        Check.due("8 fifteen", 15, x.sentence());
        Check.due("8 ORDER", "1 2 3 4/1 2 3 -4/-1 -2 -3 4", x.clause(2) + "/" + x.clause(3) + "/" + x.clause(16));
        Check.fails("8 full", STATE, x::sentence);
        Check.due("8 full", 17, x.house(1));
        promise8Thirty();
        // from left to right, and from right to left
        Check.due("8 a>b>c", "-1 -2 3", clausesOf(0, 15, 1, 15, 2));
        Check.due("8 a=b=c", "1 2 3;1 -2 -3;-1 2 -3;-1 -2 3", clausesOf(0, 16, 1, 16, 2));
        Check.due("8 a+b*c", "1 2 3;1 2 -3;1 -2 3", clausesOf(0, 14, 1, 13, 2));
        Check.due("8 !a>b=c", "1 2 3;1 -2 3;-1 2 3;-1 -2 3", clausesOf(12, 0, 15, 1, 14, 0, 14, 12, 0, 16, 2));
        Check.due("8 (a+b)*!!c", "1 2 3;1 2 -3;1 -2 3;-1 2 3;-1 -2 3",
                clausesOf(17, 0, 14, 1, 18, 13, 12, 12, 2));
        Check.due("8 a*!a", "1;-1", clausesOf(0, 13, 12, 0));
        Check.due("8 ((((!a))))", "-1", clausesOf(17, 17, 17, 17, 12, 0, 18, 18, 18, 18));
        Check.due("8 twelve", "-2 12", clausesOf(1, 15, 11));
    }

    private static void promise8Thirty() {
        Hall x = typing(0, 13, 1, 13, 2, 13, 3);
        Check.due("8 fifteen", 15, x.sentence());
        Check.due("8 thirty", 15, x.sentence());
        failsUnchanged("8 more", x, STATE, x::sentence);
        type(x, 20, 0, 14, 12, 0);
        x.step();
        Check.due("8 none at thirty", 0, x.sentence());
        Check.due("8 starts anew", 0, x.house(6));
        type(x, 14);
        Check.due("8 fault at thirty", -1, x.sentence());
    }

    private static void promise8Nothing(Hall x) {
        x.step();
        type(x, 20);
        Check.due("8 empty", -1, x.sentence());
        type(x, 0, 14);
        Check.due("8 fault", -1, x.sentence());
        type(x, 20, 6);
        Check.due("8 above WIDTH", -1, x.sentence());
        type(x, 20, 0, 14, 1, 14, 2, 14, 3, 14, 4);
        Check.due("8 five", -1, x.sentence());
        Check.due("8 nothing is changed", "2 1", x.house(1) + " " + x.house(6));
    }

    private static String clausesOf(int... codes) {
        Hall x = new Hall();
        x.wide(12);
        type(x, codes);
        int many = x.sentence();
        StringBuilder s = new StringBuilder();
        for (int n = 0; n < many; n++) {
            s.append(n == 0 ? "" : ";").append(x.clause(n));
        }
        return s.toString();
    }

    private static void promise9() {
        Hall x = Halls.noModel();
        x.score(2, 5);
        type(x, 0);
        x.run(60);
        Check.due("9 clear", 4, x.clear());
        Check.due("9 all go", "0 0 0 0 0", x.house(1) + " " + x.house(2) + " " + x.house(4) + " " + x.house(6)
                + " " + x.house(7));
        Check.due("9 stays", "a 5 false", x.typed() + " " + x.score(2, 0) + " " + x.sign(1, true));
        Check.due("9 number", 5, x.tell(1, 0, 0, 0, 0));
        Check.due("9 clear", 1, x.clear());
        Check.due("9 clear", 0, x.clear());
    }

    // ---- the search

    private static void promise10() {
        Hall x = new Hall();
        x.step();
        Check.due("10 score", 0, x.score(3, 99));
        Check.due("10 score", 99, x.score(3, 98));
        x.score(5, 98);
        Check.due("10 goes on", 1, x.house(6));
        x.run(60);
        Check.due("10 trailed", "| 1 | 3 | 5 | 2 | 4 | 6", x.trailed());
        for (int wrong : new int[] {0, 7, -1, LOW, HIGH}) {
            failsUnchanged("10 variable " + wrong, x, ARGUMENT, () -> x.score(wrong, 1));
        }
        failsUnchanged("10 score", x, ARGUMENT, () -> x.score(1, 100));
        failsUnchanged("10 score", x, ARGUMENT, () -> x.score(1, -1));
    }

    private static void promise11() {
        Hall x = new Hall();
        Check.due("11 sign", true, x.sign(2, false));
        Check.due("11 sign", false, x.sign(2, false));
        Check.due("11 sign", true, x.sign(3, true));
        x.run(3);
        Check.due("11 trailed", "| 1 | -2 | 3", x.trailed());
        Check.due("11 back", false, x.sign(2, true));
        Check.due("11 goes on", "| 1 | -2 | 3", x.trailed());
        for (int wrong : new int[] {0, 7, -1, LOW, HIGH}) {
            failsUnchanged("11 variable " + wrong, x, ARGUMENT, () -> x.sign(wrong, true));
        }
    }

    private static void promise12() {
        Hall x = Halls.noModel();
        int[] want = {2, 1, 3, 1, 1, 5, 0, 0};
        String[] trails = {"| -1", "| -1 2", "", "1", "1 3", "1 3", "1 3", "1 3"};
        for (int n = 0; n < want.length; n++) {
            Check.due("12 step " + n, want[n], x.step());
            Check.due("12 trailed " + n, trails[n], x.trailed());
        }
        Check.due("12 learned", "1", x.clause(4));
        Check.due("12 lines", "4 1 0/-1 3 2 4", x.line(0) + "/" + x.line(1));
        Check.due("12 use", "0 1", x.ofClause(0, 3) + " " + x.ofClause(4, 3));
        Check.due("12 answer", "2 0 2", x.house(4) + " " + x.house(5) + " " + x.house(14));
        Hall y = Halls.jump();
        int[] jump = {2, 2, 2, 1, 3, 1, 2, 2, 4, 0};
        String[] ways = {"| 1", "| 1 | 2", "| 1 | 2 | 3", "| 1 | 2 | 3 4", "| 1", "| 1 -3", "| 1 -3 | 2",
            "| 1 -3 | 2 | 4", "| 1 -3 | 2 | 4", "| 1 -3 | 2 | 4"};
        for (int n = 0; n < jump.length; n++) {
            Check.due("12 step " + n, jump[n], y.step());
            Check.due("12 trailed " + n, ways[n], y.trailed());
        }
        Check.due("12 learned", "-1 -3", y.clause(2));
        Hall z = new Hall();
        z.tell(0, 0, 0, 0, 1);
        Check.due("12 empty", 5, z.step());
        Check.due("12 empty", "-1 0", z.line(0));
    }

    private static void promise13() {
        Hall x = Halls.noModel();
        Check.due("13 run", 2, x.run(2));
        Check.due("13 trailed", "| -1 2", x.trailed());
        Check.due("13 run", 4, x.run(60));
        Check.due("13 run", 0, x.run(1));
        for (int wrong : new int[] {0, 61, -1, LOW, HIGH}) {
            failsUnchanged("13 run(" + wrong + ")", x, ARGUMENT, () -> x.run(wrong));
        }
    }

    private static void promise14() {
        Hall x = Halls.noModel();
        x.run(60);
        Check.due("14 anew", 2, x.anew());
        Check.due("14 anew", 0, x.anew());
        Check.due("14 stays", "0 0 1 2", x.house(4) + " " + x.house(6) + " " + x.house(2) + " " + x.house(7));
        Check.due("14 again", 3, x.run(60));
        Check.due("14 trailed", "1 3", x.trailed());
    }

    private static void promise15() {
        Hall x = Halls.jump();
        x.run(60);
        Check.due("15 reason", 0, x.forget(0));
        Check.due("15 stays", 1, x.house(2));
        x.anew();
        Check.due("15 may stay", 0, x.forget(1));
        Check.due("15 forget", 1, x.forget(0));
        Check.due("15 gone", 0, x.house(2));
        Check.due("15 line stays", "2 1 0", x.line(0));
        for (int wrong : new int[] {-1, 41, LOW, HIGH}) {
            failsUnchanged("15 forget(" + wrong + ")", x, ARGUMENT, () -> x.forget(wrong));
        }
        Check.due("15 forty", 0, x.forget(40));
        promise15BySmallestUse();
    }

    /** Two pairs as in hallWithJump: that of 4, 5, 6 is LEARNED of first, and used again by anew and a step. */
    private static void promise15BySmallestUse() {
        Hall x = new Hall();
        x.tell(-4, -5, 6, 0, 1);
        x.tell(-4, -5, -6, 0, 1);
        x.tell(-1, -2, 3, 0, 1);
        x.tell(-1, -2, -3, 0, 1);
        x.score(4, 9);
        x.score(5, 8);
        x.run(60);
        Check.due("15 learned", "-4 -5/-1 -2", x.clause(4) + "/" + x.clause(5));
        x.tell(-4, 5, 6, 0, 1);
        x.tell(-4, 5, -6, 0, 1);
        x.run(60);
        Check.due("15 uses", "1 0", x.ofClause(4, 3) + " " + x.ofClause(5, 3));
        x.anew();
        Check.due("15 two", 2, x.forget(1));
        Check.due("15 the used one stays", "-4 -5", x.clause(4));
    }

    private static void promise16() {
        Hall x = new Hall();
        Check.due("16 blank", -9, x.blank());
        Check.due("16 blank", -9, x.blank());
        Check.due("16 counted", "2 0", x.house(8) + " " + x.house(9));
        x.clear();
        x.wide(5);
        Check.due("16 ever", 2, x.house(8));
    }

    private static void promise17() {
        Hall x = new Hall();
        Check.due("17 knock", 1, x.knock());
        Check.due("17 knock", 2, x.knock());
        x.clear();
        Check.due("17 knock", 3, x.knock());
        Check.due("17 counted", "0 3", x.house(8) + " " + x.house(9));
    }

    // ---- what is asked of clauses and the search

    private static void promise18() {
        Hall x = new Hall();
        x.wide(12);
        x.tell(-12, 1, 12, -1, 0);
        x.tell(0, 0, 0, 0, 0);
        Check.due("18 clause", "1 -1 12 -12", x.clause(0));
        Check.due("18 empty", "-", x.clause(1));
        x.drop(0);
        for (int wrong : new int[] {0, 2, -1, LOW, HIGH}) {
            failsUnchanged("18 clause(" + wrong + ")", x, INDEX, () -> x.clause(wrong));
        }
    }

    private static void promise19() {
        Hall x = Halls.noModel();
        x.run(4);
        int[][] want = {{2, 0, 1, 0, 0, 0, 0, -1}, {2, 0, 2, 0, 0, 0, 0, -1}, {2, 0, 3, 0, 0, 2, 0, -1},
            {2, 0, 4, 0, 0, 2, 0, -1}, {1, 1, 0, 0, 0, 0, 1, -1}};
        for (int clause = 0; clause < 5; clause++) {
            for (int what = 0; what < 8; what++) {
                Check.due("19 ofClause(" + clause + ", " + what + ")", want[clause][what], x.ofClause(clause, what));
            }
        }
        x.step();
        Check.due("19 false", "1 0", x.ofClause(3, 5) + " " + x.ofClause(2, 5));
        Check.due("19 reasons", "1 1 0", x.ofClause(2, 6) + " " + x.ofClause(4, 6) + " " + x.ofClause(0, 6));
        failsUnchanged("19 clause", x, INDEX, () -> x.ofClause(5, 0));
        failsUnchanged("19 clause", x, INDEX, () -> x.ofClause(-1, 8));
        failsUnchanged("19 what", x, ARGUMENT, () -> x.ofClause(0, 8));
        failsUnchanged("19 what", x, ARGUMENT, () -> x.ofClause(0, -1));
        promise19In();
        promise19InLearned();
    }

    private static void promise19In() {
        Hall x = new Hall();
        x.tell(1, 2, 3, 0, 1);
        x.tell(2, 1, 0, 0, 1);
        x.tell(1, 2, 0, 0, 1);
        x.tell(1, -1, 2, 0, 1);
        x.tell(1, -1, 2, 3, 1);
        int[] want = {1, -1, 1, 1, 0};
        for (int clause = 0; clause < 5; clause++) {
            Check.due("19 in " + clause, want[clause], x.ofClause(clause, 7));
        }
        Check.due("19 else", 3, x.ofClause(0, 5));
        Check.due("19 always true", "1 0", x.ofClause(3, 4) + " " + x.ofClause(0, 4));
        x.tell(0, 0, 0, 0, 1);
        Check.due("19 empty", "5 0 -1 1", x.ofClause(1, 7) + " " + x.ofClause(4, 7) + " " + x.ofClause(5, 7)
                + " " + x.ofClause(5, 5));
    }

    private static void promise19InLearned() {
        Hall x = Halls.jump();
        x.run(60);
        Check.due("19 learned", -1, x.ofClause(2, 7));
        x.tell(-1, -3, 0, 0, 1);
        Check.due("19 same, greater", -1, x.ofClause(2, 7));
        Check.due("19 told in told", 3, x.ofClause(0, 7));
        x.tell(-3, 0, 0, 0, 1);
        Check.due("19 told in learned", 4, x.ofClause(2, 7));
        Check.due("19 learned in none", 4, x.ofClause(3, 7));
    }

    private static void promise20() {
        Hall x = Halls.jump();
        x.run(60);
        int[][] want = {{1, 1, -1}, {-3, 1, 2}, {2, 2, -1}, {4, 3, -1}};
        for (int nth = 0; nth < 4; nth++) {
            for (int what = 0; what < 3; what++) {
                Check.due("20 trail(" + nth + ", " + what + ")", want[nth][what], x.trail(nth, what));
            }
        }
        for (int wrong : new int[] {4, -1, LOW, HIGH}) {
            failsUnchanged("20 trail(" + wrong + ")", x, INDEX, () -> x.trail(wrong, 3));
        }
        failsUnchanged("20 what", x, ARGUMENT, () -> x.trail(3, 3));
        failsUnchanged("20 what", x, ARGUMENT, () -> x.trail(0, -1));
    }

    private static void promise21() {
        Hall x = new Hall();
        Check.due("21 none", "", x.trailed());
        x.tell(-3, 0, 0, 0, 1);
        x.run(3);
        Check.due("21 trailed", "-3 | 1 | 2", x.trailed());
    }

    private static void promise22() {
        Hall x = Halls.noModel();
        Check.due("22 none", "!", x.line(0));
        x.run(60);
        Check.due("22 line", "4 1 0", x.line(0));
        Check.due("22 last", "-1 3 2 4", x.line(1));
        Check.due("22 none", "!", x.line(2));
        Check.due("22 far", "!", x.line(HIGH));
        failsUnchanged("22 below", x, ARGUMENT, () -> x.line(-1));
        failsUnchanged("22 below", x, ARGUMENT, () -> x.line(LOW));
        for (int n = 0; n < 200; n++) {
            x.anew();
            x.run(60);
        }
        Check.due("22 many", "202 -1 3 2 4", x.house(7) + " " + x.line(201));
    }

    private static void promise23() {
        Hall x = Halls.parts();
        type(x, 0, 1);
        x.blank();
        x.knock();
        x.knock();
        x.run(2);
        int[] want = {6, 4, 0, 4, 0, 2, 2, 0, 1, 2, 26, 2, 2, 2, 0, 1};
        for (int what = 0; what <= 15; what++) {
            Check.due("23 house(" + what + ")", want[what], x.house(what));
        }
        Hall y = Halls.noModel();
        y.run(60);
        int[] ended = {3, 4, 1, 5, 2, 0, 2, 2, 0, 0, 10, 1, 0, 1, 2, 0};
        for (int what = 0; what <= 15; what++) {
            Check.due("23 house(" + what + ")", ended[what], y.house(what));
        }
        y.drop(0);
        Check.due("23 ever", "1 2 5", y.house(13) + " " + y.house(14) + " " + y.house(3));
        for (int wrong : new int[] {16, -1, LOW, HIGH}) {
            failsUnchanged("23 house(" + wrong + ")", y, ARGUMENT, () -> y.house(wrong));
        }
    }

    private static void promise24() {
        Hall x = typing(0, 1, 2, 3, 4, 5, 6, 7, 8, 9, 10, 11, 12, 13, 14, 15, 16, 17, 18);
        Check.due("24 typed", "abcdefghijkl!*+>=()", x.typed());
        x.say(20, -1, -1, -1, -1, -1);
        Check.due("24 empty", "", x.typed());
    }

    private static void promise25() {
        Check.due("25 empty", 0, typing().fault());
        Check.due("25 letter", -1, typing(11).fault());
        Check.due("25 open end", 2, typing(0, 14).fault());
        Check.due("25 open bracket", 2, typing(17, 0).fault());
        Check.due("25 two letters", 1, typing(0, 1, 2).fault());
        Check.due("25 not behind a letter", 1, typing(0, 12).fault());
        Check.due("25 bracket behind a letter", 1, typing(0, 17).fault());
        Check.due("25 bracket too many", 1, typing(0, 18).fault());
        Check.due("25 empty brackets", 1, typing(17, 18).fault());
        Check.due("25 sign first", 0, typing(13).fault());
        Check.due("25 four open", 4, typing(17, 17, 17, 17, 17, 0).fault());
        Check.due("25 four open", -1, typing(17, 17, 17, 17, 0, 18, 18, 18, 18, 14, 17, 0, 18).fault());
        Check.due("25 all signs", -1, typing(12, 12, 17, 0, 14, 1, 18, 13, 2, 15, 3, 16, 4, 15, 5).fault());
        Hall x = new Hall();
        for (int n = 0; n < 39; n++) {
            x.say(12, -1, -1, -1, -1, -1);
        }
        Check.due("25 long", 39, x.fault());
        x.say(0, -1, -1, -1, -1, -1);
        Check.due("25 long", -1, x.fault());
        Check.due("25 long", 1, x.sentence());
        Check.due("25 long", "-1", x.clause(0));
    }

    // ---- models

    private static void promise26() {
        Check.due("26 models", 4 * 3 * 2, Halls.parts().models());
        Check.due("26 none", 0, Halls.noModel().models());
        Hall x = new Hall();
        int[] widths = {1, 5, 7, 12};
        for (int width : widths) {
            x.wide(width);
            Check.due("26 all", 1 << width, x.models());
        }
        x.tell(1, 12, 0, 0, 0);
        Check.due("26 models", 3072, x.models());
        x.tell(0, 0, 0, 0, 0);
        Check.due("26 empty", 0, x.models());
    }

    private static void promise27() {
        Hall x = new Hall();
        x.wide(3);
        x.tell(1, 3, 0, 0, 1);
        String[] want = {"-1 -2 3", "-1 2 3", "1 -2 -3", "1 -2 3", "1 2 -3", "1 2 3", "!"};
        for (int nth = 0; nth < 7; nth++) {
            Check.due("27 model(" + nth + ")", want[nth], x.model(nth));
        }
        Check.due("27 far", "!", x.model(HIGH));
        failsUnchanged("27 below", x, ARGUMENT, () -> x.model(-1));
        failsUnchanged("27 below", x, ARGUMENT, () -> x.model(LOW));
        Hall y = new Hall();
        y.wide(12);
        Check.due("27 wide", "1 2 3 4 5 6 7 8 9 10 11 12", y.model(4095));
        Check.due("27 wide", "-1 -2 -3 -4 -5 6 -7 -8 -9 -10 -11 12", y.model(65));
        Check.due("27 none", "!", Halls.noModel().model(0));
    }

    private static void promise28() {
        Check.due("28 none", "", new Hall().fixed());
        Check.due("28 no MODEL", "!", Halls.noModel().fixed());
        Hall x = Halls.parts();
        Check.due("28 none", "", x.fixed());
        x.tell(-4, 0, 0, 0, 1);
        Check.due("28 fixed", "1 -2 -4", x.fixed());
        x.tell(3, 0, 0, 0, 1);
        Check.due("28 fixed", "1 -2 3 -4 5", x.fixed());
        x.tell(-6, 0, 0, 0, 1);
        Check.due("28 last", "1 -2 3 -4 5 -6", x.fixed());
    }

    private static void promise29() {
        Hall x = Halls.parts();
        Check.due("29 sets", "11 20", x.part(0, false) + " " + x.part(1, false));
        Check.due("29 models", "4 3", x.part(0, true) + " " + x.part(1, true));
        for (int wrong : new int[] {2, -1, LOW, HIGH}) {
            failsUnchanged("29 part(" + wrong + ")", x, INDEX, () -> x.part(wrong, true));
        }
        x.tell(0, 0, 0, 0, 1);
        Check.due("29 empty", "4 3 0", x.part(0, true) + " " + x.part(1, true) + " " + x.models());
        x.tell(-6, 5, 1, 0, 1);
        Check.due("29 joined", "63 1", x.part(0, false) + " " + x.house(11));
    }

    private static void promise30() {
        Hall x = Halls.parts();
        int[][] want = {{2, 0, 0, 1}, {1, 1, 1, 0}, {0, 1, 0, 1}, {1, 0, 0, 1}, {1, 0, 0, 1}, {1, 1, 0, 1}};
        for (int variable = 1; variable <= 6; variable++) {
            for (int what = 0; what < 4; what++) {
                Check.due("30 ofVariable(" + variable + ", " + what + ")", want[variable - 1][what],
                        x.ofVariable(variable, what));
            }
        }
        x.tell(-2, -1, 0, 0, 1);
        x.tell(-2, -1, 0, 0, 1);
        Check.due("30 always true joinings", "1 3", x.ofVariable(2, 2) + " " + x.ofVariable(2, 1));
        for (int wrong : new int[] {0, 7, -1, LOW, HIGH}) {
            failsUnchanged("30 variable " + wrong, x, ARGUMENT, () -> x.ofVariable(wrong, 0));
        }
        failsUnchanged("30 what", x, ARGUMENT, () -> x.ofVariable(1, 4));
        failsUnchanged("30 what", x, ARGUMENT, () -> x.ofVariable(1, -1));
    }

    // ---- what is assumed, cores, weights

    private static void promise31() {
        Hall x = Halls.parts();
        Check.due("31 nothing", 24, x.assume(0, 0));
        Check.due("31 yes", 18, x.assume(1, 0));
        Check.due("31 no", 6, x.assume(0, 1));
        Check.due("31 more", 1, x.assume(0b110111, 0));
        Check.due("31 all", 1, x.assume(0b111111, 0));
        Check.due("31 both", 2, x.assume(0b10, 0b10101));
        Check.due("31 none", 0, x.assume(0, 0b11));
        for (int[] wrong : new int[][] {{64, 0}, {0, 64}, {-1, 0}, {0, -1}, {3, 2}, {LOW, 0}, {0, HIGH}}) {
            failsUnchanged("31 assume", x, ARGUMENT, () -> x.assume(wrong[0], wrong[1]));
            failsUnchanged("32 failing", x, ARGUMENT, () -> x.failing(wrong[0], wrong[1]));
            failsUnchanged("33 follows", x, ARGUMENT, () -> x.follows(wrong[0], wrong[1]));
        }
    }

    private static void promise32() {
        Hall x = Halls.parts();
        Check.due("32 fine", "", x.failing(1, 8));
        Check.due("32 two", "-1 -2", x.failing(0, 0b1011));
        Check.due("32 first", "2 -4", x.failing(0b110, 0b11000));
        Check.due("32 second", "3 -5", x.failing(0b100, 0b11010));
        Check.due("32 no MODEL", "-", Halls.noModel().failing(7, 0));
        Check.due("32 no MODEL", "-", Halls.noModel().failing(0, 0));
        x.tell(-6, -5, -3, 0, 1);
        x.tell(6, 0, 0, 0, 1);
        Check.due("32 three and one", "3", x.failing(0b110111, 0));
        Hall y = new Hall();
        y.wide(12);
        y.tell(-3, -5, -9, 0, 1);
        y.tell(-2, -10, -9, 0, 1);
        Check.due("32 eight", "2 9 10", y.failing(0b101110110110, 0));
        failsUnchanged("32 nine", y, ARGUMENT, () -> y.failing(0b11111, 0b111100000));
        Check.due("32 eight", "3 5 9", y.failing(0b111110100, 0b1010));
    }

    private static void promise33() {
        Hall x = Halls.parts();
        Check.due("33 none", "", x.follows(0, 0));
        Check.due("33 chain", "2 4", x.follows(0, 1));
        Check.due("33 against", "!", x.follows(0, 9));
        Check.due("33 assumed are not told", "5", x.follows(7 & ~2, 0));
        Check.due("33 smallest clause first", "4 5", x.follows(0b110, 0));
        Check.due("33 back", "-2 1", x.follows(0, 8));
        x.tell(3, 0, 0, 0, 1);
        Check.due("33 alone", "3 5", x.follows(0, 0));
        x.tell(0, 0, 0, 0, 1);
        Check.due("33 empty", "!", x.follows(0, 0));
        Hall y = Halls.jump();
        y.run(60);
        Check.due("33 told alone", "", y.follows(1, 0));
    }

    private static void promise34() {
        Check.due("34 MODEL", "!", new Hall().core());
        Check.due("34 all", "0 1 2 3", Halls.noModel().core());
        Hall x = Halls.noModel();
        x.tell(-1, 2, 0, 0, 1);
        x.tell(-1, -2, 0, 0, 1);
        Check.due("34 last ones stay", "0 1 4 5", x.core());
        x.tell(-1, 0, 0, 0, 1);
        Check.due("34 fewer", "0 1 6", x.core());
        x.tell(0, 0, 0, 0, 1);
        Check.due("34 empty", "7", x.core());
    }

    private static void promise35() {
        Check.due("35 MODEL", -1, new Hall().leastCore());
        Hall x = Halls.noModel();
        Check.due("35 four", 4, x.leastCore());
        x.tell(-1, 0, 0, 0, 1);
        Check.due("35 three", 3, x.leastCore());
        x.tell(1, 0, 0, 0, 1);
        Check.due("35 two", 2, x.leastCore());
        x.tell(0, 0, 0, 0, 1);
        Check.due("35 one", 1, x.leastCore());
        Hall y = new Hall();
        y.tell(1, 0, 0, 0, 1);
        y.tell(-1, 2, 0, 0, 1);
        y.tell(-2, 3, 0, 0, 1);
        y.tell(-3, 4, 0, 0, 1);
        int last = y.tell(-4, 0, 0, 0, 1);
        Check.due("35 five", 5, y.leastCore());
        y.drop(last);
        y.tell(-4, 5, 0, 0, 1);
        y.tell(-5, 0, 0, 0, 1);
        Check.due("35 six", -1, y.leastCore());
    }

    private static void promise36() {
        Hall x = new Hall();
        Check.due("36 nothing", "0 0", x.best(false) + " " + x.best(true));
        x.wide(3);
        x.tell(1, 0, 0, 0, 4);
        x.tell(-1, 0, 0, 0, 3);
        x.tell(2, 3, 0, 0, 5);
        x.tell(3, -3, 0, 0, 9);
        Check.due("36 best", "18 5", x.best(false) + " " + x.best(true));
        x.weigh(1, 5);
        Check.due("36 other", "19 1", x.best(false) + " " + x.best(true));
        x.weigh(1, 4);
        Check.due("36 first", "18 1", x.best(false) + " " + x.best(true));
        x.weigh(0, 0);
        x.weigh(1, 0);
        x.tell(0, 0, 0, 0, 9);
        Check.due("36 empty", "14 1", x.best(false) + " " + x.best(true));
    }

    private static void promise37() {
        Check.due("37 new", true, new Hall().isSound());
        for (Hall x : new Hall[] {Halls.noModel(), Halls.jump(), Halls.parts()}) {
            for (int n = 0; n < 20; n++) {
                Check.due("37 sound", true, x.isSound());
                x.step();
            }
        }
        Hall y = new Hall();
        y.tell(0, 0, 0, 0, 1);
        y.step();
        Check.due("37 empty", true, y.isSound());
    }

    private static void promise38() {
        Edges.Recipe[] recipes = {Hall::new, Halls::noModel, Halls::jump, Halls::parts};
        for (Edges.Recipe recipe : recipes) {
            for (int steps = 0; steps < 12; steps++) {
                Hall x = recipe.make();
                type(x, 0, 14);
                x.blank();
                for (int n = 0; n < steps; n++) {
                    x.step();
                }
                Check.due("38 digest", EdgesOfModels.byFace(x), x.digest());
                Check.due("38 again", x.digest(), x.digest());
            }
        }
    }

    public static void main(String[] args) {
        promise1();
        promise2();
        promise3();
        promise4();
        promise5();
        promise6();
        promise7();
        promise8();
        promise9();
        promise10();
        promise11();
        promise12();
        promise13();
        promise14();
        promise15();
        promise16();
        promise17();
        promise18();
        promise19();
        promise20();
        promise21();
        promise22();
        promise23();
        promise24();
        promise25();
        promise26();
        promise27();
        promise28();
        promise29();
        promise30();
        promise31();
        promise32();
        promise33();
        promise34();
        promise35();
        promise36();
        promise37();
        promise38();
        Check.end();
    }
}
