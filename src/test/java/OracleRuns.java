import java.lang.reflect.InvocationTargetException;
import java.lang.reflect.Method;
import java.lang.reflect.Modifier;
import java.util.ArrayList;
import java.util.Arrays;
import java.util.List;
import java.util.stream.Collectors;
import java.util.stream.IntStream;

/**
 * Runs of calls, made up by a fixed row of numbers, on the program and on the Oracle.
 * Arguments: how many runs of each kind (60 without), the number that the row starts with.
 */
public final class OracleRuns {
    private static final int KINDS = 7;
    private static final int FORTY = 6;
    private static final String[] NAMES = {"wide", "tell", "drop", "weigh", "atMost", "say", "sentence", "clear",
        "score", "sign", "step", "run", "anew", "forget", "blank", "knock", "clause", "ofClause", "trail",
        "trailed", "line", "house", "typed", "fault", "models", "model", "fixed", "part", "ofVariable", "assume",
        "failing", "follows", "core", "leastCore", "best", "isSound", "digest"};
    /** How often each method is called, by kind: mixed, hard searches, no MODEL, typing, full, wrong arguments, forty
     * LEARNED clauses. */
    private static final int[][] OFTEN = {
        {1, 30, 4, 4, 3, 6, 4, 1, 6, 6, 20, 10, 4, 4, 1, 1, 6, 12, 8, 6, 6, 8, 2, 2, 4, 6, 4, 6, 8, 6, 6, 6, 4, 2, 4,
            3, 6},
        {0, 0, 0, 1, 0, 0, 0, 0, 1, 2, 2, 2, 0, 0, 0, 0, 2, 4, 3, 2, 4, 3, 0, 0, 0, 0, 0, 0, 0, 0, 0, 1, 0, 0, 0,
            2, 8},
        {1, 60, 10, 4, 6, 1, 1, 1, 4, 4, 10, 20, 4, 4, 1, 1, 4, 6, 4, 4, 4, 4, 1, 1, 4, 2, 4, 4, 4, 4, 10, 10, 10, 10,
            10, 6, 10},
        {2, 2, 2, 1, 1, 90, 20, 5, 1, 1, 2, 4, 1, 1, 1, 1, 6, 2, 1, 1, 1, 4, 10, 30, 4, 4, 2, 2, 2, 2, 2, 2, 2, 2, 2,
            2, 6},
        {0, 60, 6, 8, 20, 2, 12, 0, 4, 4, 10, 20, 4, 4, 1, 1, 6, 10, 4, 4, 4, 6, 1, 1, 4, 4, 4, 6, 8, 6, 6, 6, 6, 4, 8,
            4, 8},
        {4, 10, 4, 4, 4, 4, 4, 2, 4, 4, 4, 4, 2, 4, 1, 1, 4, 8, 8, 2, 4, 4, 2, 2, 2, 4, 2, 4, 8, 8, 8, 8, 2, 2, 2, 2,
            4},
        {0, 0, 0, 1, 0, 0, 0, 0, 1, 1, 2, 2, 0, 0, 0, 0, 2, 4, 3, 2, 4, 3, 0, 0, 0, 0, 0, 0, 0, 0, 0, 1, 0, 0, 0, 2,
            6}};

    private long seed;
    private final int kind;
    private final Clausehall program = new Clausehall();
    private final Oracle oracle = new Oracle();
    private final List<String> calls = new ArrayList<>();
    /** In runs of kind FORTY the LITERAL that stands for each VARIABLE of class Forty, and which are true. */
    private final int[] places = new int[13];
    private final boolean[] trues = new boolean[13];
    private int searches;
    private boolean isFine;

    private OracleRuns(int kind, long seed) {
        this.kind = kind;
        this.seed = seed;
    }

    private int upTo(int bound) {
        seed = seed * 6364136223846793005L + 1442695040888963407L;
        return (int) Math.floorMod(seed >>> 33, (long) bound);
    }

    private int between(int least, int most) {
        return least + upTo(most - least + 1);
    }

    private boolean isOnce(int in) {
        return upTo(in) == 0;
    }

    private int wild() {
        int[] all = {-1, 0, 13, 1 << 12, Integer.MIN_VALUE, Integer.MAX_VALUE, -13, 64, -2, 100, 41, 31};
        return all[upTo(all.length)];
    }

    private int literal() {
        int v = between(1, oracle.house(0));
        return isOnce(2) ? v : -v;
    }

    private int set() {
        return upTo(1 << oracle.house(0)) & (isOnce(2) ? -1 : upTo(1 << 12));
    }

    private int number() {
        return upTo(oracle.house(3) + 1);
    }

    private int[] argumentsOf(int method) {
        int[] a = new int[6];
        switch (method) {
            case 0: a[0] = between(1, 12); break;
            case 1: told(a); break;
            case 2: case 16: a[0] = number(); break;
            case 3: a[0] = number(); a[1] = between(0, 9); break;
            case 4: a[0] = set(); a[1] = upTo(4); break;
            case 5: codes(a); break;
            case 8: a[0] = between(1, oracle.house(0)); a[1] = isOnce(2) ? between(0, 3) : between(0, 99); break;
            case 9: a[0] = between(1, oracle.house(0)); a[1] = upTo(2); break;
            case 11: a[0] = isOnce(3) ? 60 : between(1, 20); break;
            case 13: a[0] = between(0, 40); break;
            case 17: a[0] = number(); a[1] = upTo(8); break;
            case 18: a[0] = upTo(oracle.house(6) + 1); a[1] = upTo(3); break;
            case 20: a[0] = upTo(oracle.house(7) + 2); break;
            case 21: a[0] = upTo(16); break;
            case 25: a[0] = upTo(oracle.models() + 2); break;
            case 27: a[0] = upTo(oracle.house(11) + 1); a[1] = upTo(2); break;
            case 28: a[0] = between(1, oracle.house(0)); a[1] = upTo(4); break;
            case 29: case 30: case 31:
                a[0] = set();
                a[1] = set() & ~(isOnce(20) ? 0 : a[0]);
                break;
            case 34: a[0] = upTo(2); break;
            default: break;
        }
        if (isOnce(kind == 5 ? 3 : 40)) {
            a[upTo(3)] = wild();
        }
        return a;
    }

    private void told(int[] a) {
        int many = isOnce(60) ? 0 : kind == 2 ? between(1, 3) : between(1, 4);
        for (int n = 0; n < many; n++) {
            a[upTo(4)] = literal();
        }
        a[4] = between(0, 9);
    }

    /** Codes that often go on as a SENTENCE does. */
    private void codes(int[] a) {
        int letters = isOnce(2) ? 4 : 12;
        for (int n = 0; n < 6; n++) {
            boolean isBehindFactor = n % 2 == 1;
            a[n] = isBehindFactor ? between(13, 16) : upTo(letters);
            if (isOnce(4)) {
                a[n] = between(-1, 18);
            } else if (isOnce(6)) {
                a[n] = isBehindFactor ? 18 : isOnce(2) ? 12 : 17;
            } else if (isOnce(30)) {
                a[n] = between(19, 20);
            }
        }
    }

    private static Method find(Class<?> type, String name) {
        for (Method method : type.getDeclaredMethods()) {
            if (method.getName().equals(name) && !Modifier.isPrivate(method.getModifiers())) {
                return method;
            }
        }
        throw new AssertionError(name);
    }

    /** What a method answers, or which exception it throws; a boolean argument is true for all but 0. */
    private static String answerOf(Object target, int method, int[] a) {
        Method called = find(target.getClass(), NAMES[method]);
        Class<?>[] types = called.getParameterTypes();
        Object[] arguments = new Object[types.length];
        for (int n = 0; n < types.length; n++) {
            if (types[n] == boolean.class) {
                arguments[n] = a[n] != 0;
            } else {
                arguments[n] = a[n];
            }
        }
        try {
            return String.valueOf(called.invoke(target, arguments));
        } catch (InvocationTargetException e) {
            return "throws." + e.getCause().getClass().getSimpleName();
        } catch (IllegalAccessException e) {
            throw new AssertionError(e);
        }
    }

    private boolean isAlike(int method, int... given) {
        int[] a = Arrays.copyOf(given, 6);
        String due = answerOf(oracle, method, a);
        String answer = answerOf(program, method, a);
        calls.add(NAMES[method] + Arrays.toString(a) + " " + answer + (answer.equals(due) ? "" : ", due is " + due));
        return answer.equals(due);
    }

    private int drawMethod() {
        int sum = 0;
        for (int often : OFTEN[kind]) {
            sum += often;
        }
        int left = upTo(sum);
        for (int method = 0; method < OFTEN[kind].length; method++) {
            left -= OFTEN[kind][method];
            if (left < 0) {
                return method;
            }
        }
        return 0;
    }

    /**
     * Sums of four VARIABLES that must be odd or even, two of them in each: chosen last, these two show
     * late that the others are wrong, so that each way of the others gives conflicts of its own.
     */
    private boolean beginsHard() {
        boolean isFine = isAlike(0, between(8, 12));
        int shift = upTo(oracle.house(0));
        for (int n = 0; n < 3 && isFine; n++) {
            int a = (shift + n * 2) % oracle.house(0);
            int b = (shift + n * 2 + 1) % oracle.house(0);
            int c = (shift + 6) % oracle.house(0);
            int d = (shift + 7) % oracle.house(0);
            isFine = isAlike(5, 20, isOnce(2) ? 12 : -1, a, 16, b, 16) && isAlike(5, c, 16, d, -1, -1, -1)
                    && isAlike(6) && isAlike(8, a + 1, between(50, 60)) && isAlike(8, b + 1, between(50, 60));
        }
        return isFine;
    }

    /** The CLAUSES of class Forty, with other VARIABLES and SIGNS. */
    private boolean beginsForty() {
        boolean isFine = isAlike(0, 12);
        for (int v = 1; v <= 12; v++) {
            int other = between(1, v);
            places[v] = places[other];
            places[other] = isOnce(2) ? v : -v;
        }
        for (int v = 1; v <= 12 && isFine; v++) {
            trues[v] = places[v] > 0;
            isFine = isAlike(8, Math.abs(places[v]), 90 - v);
        }
        for (int v = 1; v <= 8 && isFine; v++) {
            isFine = tellPlaces(-v, -11, 12, 0) && tellPlaces(-v, -11, -12, 0);
        }
        for (int v = 1; v <= 3 && isFine; v++) {
            for (int w = v + 1; w <= 4 && isFine; w++) {
                isFine = tellPlaces(-v, -w, 9, 10) && tellPlaces(-v - 4, -w - 4, 9, -10);
            }
        }
        return isFine;
    }

    private boolean tellPlaces(int a, int b, int c, int d) {
        return isAlike(1, placeOf(a), placeOf(b), placeOf(c), placeOf(d), between(0, 9));
    }

    private int placeOf(int literal) {
        return literal < 0 ? -places[-literal] : places[literal];
    }

    private boolean makesTrue(int v, boolean is) {
        if (trues[v] == is) {
            return true;
        }
        trues[v] = is;
        return isAlike(9, Math.abs(places[v]), places[v] > 0 == is ? 1 : 0);
    }

    /** Two of 1 to 4 and two of 5 to 8 are true and 9 is false, or fewer of them and 11 are. */
    private boolean searchesForty() {
        boolean isPairs = !isOnce(4);
        searches += isPairs ? 1 : 0;
        int[] lowPair = {0x12, 0x13, 0x14, 0x23, 0x24, 0x34};
        int pair = lowPair[searches * 5 / 6 % 6] * 0x100 + lowPair[searches * 5 % 6] + 0x44;
        int low = isPairs ? pair >> 12 : 0;
        int otherLow = isPairs ? pair >> 8 & 15 : 0;
        int high = isPairs ? pair >> 4 & 15 : between(1, 8);
        int otherHigh = isPairs ? pair & 15 : 0;
        boolean isFine = makesTrue(9, false) && makesTrue(11, !isPairs || isOnce(8));
        for (int v = 1; v <= 8 && isFine; v++) {
            isFine = makesTrue(v, v == low || v == otherLow || v == high || v == otherHigh);
        }
        return isFine && isAlike(12) && isAlike(11, 60);
    }

    /** A run of so many calls, or as far as the first one that is answered wrongly. */
    private static OracleRuns made(int n, long seed) {
        OracleRuns run = new OracleRuns(n % KINDS, seed * 1000003 + n * 7919L);
        run.isFine = run.isRunAlike(n % 3 < 2 || run.kind == FORTY ? 512 : 150);
        return run;
    }

    private boolean isRunAlike(int many) {
        if (kind == 1 && !beginsHard() || kind == FORTY && !beginsForty()) {
            return false;
        }
        if (kind != 1 && kind != FORTY && isOnce(2) && !isAlike(0, kind == 2 ? between(1, 6) : between(1, 12))) {
            return false;
        }
        while (calls.size() < many - 13) {
            int method = drawMethod();
            if ((kind != FORTY || isOnce(4)) && !isAlike(method, argumentsOf(method)) || kind == 1 && !searchesAnew()
                    || kind == FORTY && !searchesForty()) {
                return false;
            }
        }
        return true;
    }

    private boolean searchesAnew() {
        boolean isFine = true;
        for (int n = between(0, 4); n > 0 && isFine; n--) {
            isFine = isAlike(9, between(1, oracle.house(0)), upTo(2));
        }
        return isFine && isAlike(12) && isAlike(11, 60);
    }

    public static void main(String[] args) {
        int runs = args.length > 0 ? Integer.parseInt(args[0]) : 60;
        long seed = args.length > 1 ? Long.parseLong(args[1]) : 1;
        List<OracleRuns> all = IntStream.range(0, runs * KINDS).parallel().mapToObj(n -> made(n, seed))
                .collect(Collectors.toList());
        int mostLearned = 0;
        int forgotten = 0;
        int wrong = 0;
        for (OracleRuns run : all) {
            mostLearned = Math.max(mostLearned, run.oracle.mostLearned);
            forgotten += run.oracle.forgottenBySearch;
            wrong += run.isFine ? 0 : 1;
            if (!run.isFine && wrong == 1) {
                System.out.println(String.join("\n", run.calls));
                System.out.println("a run of kind " + run.kind + " is wrong");
            }
        }
        System.out.println("runs against the oracle: " + all.size() + ", most learned " + mostLearned
                + ", forgotten by searches " + forgotten);
        if (runs >= 60 && (mostLearned < 40 || forgotten < 60)) {
            System.out.println("the runs do not reach 40 LEARNED clauses");
            wrong++;
        }
        System.out.println(wrong == 0 ? all.size() + " passed, 0 failed" : wrong + " failed");
        if (wrong != 0) {
            System.exit(1);
        }
    }
}
