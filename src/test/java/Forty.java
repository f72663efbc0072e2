/**
 * Halls that come to 40 LEARNED clauses. VARIABLES 1 to 4 and 5 to 8 stand in pairs: with two of 1 to 4 and
 * two of 5 to 8 true, the CHOICE of -9 is a CONFLICT, LEARNED as these four and 9. With one of 1 to 8 true,
 * the CHOICE of 11 is one, LEARNED as that one and -11. The LEVEL of 1 to 8 is their number.
 */
final class Forty {
    static final int TOLD = 28;
    private static final int[][] LOW_PAIRS = {{1, 2}, {1, 3}, {1, 4}, {2, 4}, {2, 3}, {3, 4}};
    private static final int[][] HIGH_PAIRS = {{5, 8}, {5, 7}, {5, 6}, {6, 7}, {6, 8}, {7, 8}};

    final Hall hall = Halls.wide(12);
    private int trues = 0b11111111;

    /** Tells the CLAUSES, those of 11 in this order of 1 to 8: of two that are FALSE the first one counts. */
    Forty(int... order) {
        for (int one : order) {
            hall.add(-one, -11, 12);
            hall.add(-one, -11, -12);
        }
        for (int[] pair : LOW_PAIRS) {
            hall.add(-pair[0], -pair[1], 9, 10);
        }
        for (int[] pair : HIGH_PAIRS) {
            hall.add(-pair[0], -pair[1], 9, -10);
        }
    }

    /** Lets the search choose just these of 1 to 8 as true ones. */
    private void choose(int... wanted) {
        int set = 0;
        for (int one : wanted) {
            set |= 1 << (one - 1);
        }
        for (int v = 1; v <= 8; v++) {
            int bit = 1 << (v - 1);
            if (((set ^ trues) & bit) != 0) {
                hall.sign(v, (set & bit) != 0);
            }
        }
        trues = set;
        hall.anew();
    }

    /** So many LEARNED clauses of two pairs; the first one is "-1 -2 -5 -8 9". */
    Forty pairs(int many) {
        hall.sign(9, false);
        hall.sign(11, false);
        for (int n = 0; n < many; n++) {
            pair(n);
        }
        return this;
    }

    void pair(int nth) {
        int[] low = LOW_PAIRS[nth / 6];
        int[] high = HIGH_PAIRS[nth / 6 % 2 == 0 ? nth % 6 : 5 - nth % 6];
        choose(low[0], low[1], high[0], high[1]);
        hall.run(60);
    }

    /** A LEARNED clause of 11 and each of these. */
    Forty ones(int... those) {
        hall.sign(11, true);
        for (int one : those) {
            choose(one);
            hall.run(60);
        }
        return this;
    }

    /** The search as far as the STEP that gives a LEARNED clause, with these of 1 to 8 and 11 true. */
    void untilLearned(int... those) {
        hall.sign(11, true);
        choose(those);
        for (int n = 0; n < 20 && hall.step() != 3; n++) {
            Check.due("no ANSWER yet", 0, hall.house(4));
        }
    }
}
