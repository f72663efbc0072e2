import java.util.ArrayList;
import java.util.Arrays;

/**
 * A hall of clauses: they are told, searched step by step with learning, and asked for models.
 * The words in capitals are those of DOC.md. A set of VARIABLES has bit v - 1 for v.
 */
public final class Clausehall {
    private static final int NONE = -1;
    private static final int FIRST_WIDTH = 6;
    private static final int MOST_VARIABLES = 12;
    private static final int MOST_TOLD = 30;
    private static final int MOST_LEARNED = 40;
    private static final int MOST_WEIGHT = 9;
    private static final int MOST_SCORE = 99;
    private static final int MOST_MANY = 3;
    private static final int MOST_STEPS = 60;
    private static final int MOST_ASSUMED = 8;
    private static final int MOST_OF_SENTENCE = 4;
    private static final int LINES_OF_DIGEST = 8;
    private static final int HOUSE_NUMBERS = 16;
    private static final int CLAUSE_NUMBERS = 8;
    private static final int TRAIL_NUMBERS = 3;
    private static final int VARIABLE_NUMBERS = 4;
    private static final int BLANK_ANSWER = -9;
    private static final long DIGEST_START = 7057L;

    private final Store store = new Store();
    private final Search search = new Search();
    private final Truth truth = new Truth();
    private final Cover cover = new Cover();
    private final Parts parts = new Parts();
    private final Typing typing = new Typing();
    private final Words words = new Words();
    private int width = FIRST_WIDTH;
    private int blanks;
    private int knocks;

    public Clausehall() {
    }

    // ---- clauses

    public int wide(int width) throws IllegalArgumentException, IllegalStateException {
        if (width < 1 || width > MOST_VARIABLES) {
            throw new IllegalArgumentException("width");
        }
        if (store.clauses.size() > 0) {
            throw new IllegalStateException("there is a clause");
        }
        int before = this.width;
        this.width = width;
        store.version++;
        beginAgain();
        return before;
    }

    public int tell(int a, int b, int c, int d, int weight)
            throws IllegalArgumentException, IllegalStateException {
        if (!isLiteralOrNothing(a) || !isLiteralOrNothing(b) || !isLiteralOrNothing(c)
                || !isLiteralOrNothing(d) || !isWeight(weight)) {
            throw new IllegalArgumentException("literal or weight");
        }
        if (store.told >= MOST_TOLD) {
            throw new IllegalStateException("too many clauses");
        }
        int yes = setOf(a) | setOf(b) | setOf(c) | setOf(d);
        int no = setOf(-a) | setOf(-b) | setOf(-c) | setOf(-d);
        search.startAnew();
        return store.addTold(yes, no, weight);
    }

    public int drop(int clause) throws IndexOutOfBoundsException {
        Clause told = store.findTold(clause);
        if (told == null) {
            throw new IndexOutOfBoundsException("clause");
        }
        beginAgain();
        store.removeTold(told);
        return store.told;
    }

    public int weigh(int clause, int weight) throws IndexOutOfBoundsException, IllegalArgumentException {
        Clause told = store.findTold(clause);
        if (told == null) {
            throw new IndexOutOfBoundsException("clause");
        }
        if (!isWeight(weight)) {
            throw new IllegalArgumentException("weight");
        }
        int before = told.weight;
        told.weight = weight;
        store.version++;
        return before;
    }

    public int atMost(int variables, int many) throws IllegalArgumentException, IllegalStateException {
        if (!isSetOfVariables(variables) || many < 0 || many > MOST_MANY) {
            throw new IllegalArgumentException("variables or many");
        }
        int come = choose(Integer.bitCount(variables), many + 1);
        if (store.told + come > MOST_TOLD) {
            throw new IllegalStateException("too many clauses");
        }
        search.startAnew();
        addSubsets(variables, many + 1);
        return come;
    }

    public int say(int a, int b, int c, int d, int e, int f)
            throws IllegalArgumentException, IllegalStateException {
        if (!typing.takesAll(a, b, c, d, e, f)) {
            throw new IllegalArgumentException("code");
        }
        if (!typing.hasRoom()) {
            throw new IllegalStateException("too many signs");
        }
        typing.typeAll();
        return typing.text.length();
    }

    public int sentence() throws IllegalStateException {
        int letters = typing.letters();
        if (typing.firstFault() != NONE || !isSetOfVariables(letters)
                || Integer.bitCount(letters) > MOST_OF_SENTENCE) {
            return NONE;
        }
        int rows = 1 << Integer.bitCount(letters);
        int wrong = ~typing.tableOf(letters) & ((1 << rows) - 1);
        int come = Integer.bitCount(wrong);
        if (store.told + come > MOST_TOLD) {
            throw new IllegalStateException("too many clauses");
        }
        search.startAnew();
        for (int row = 0; row < rows; row++) {
            if ((wrong >> row & 1) != 0) {
                int trues = Typing.truesOf(letters, row);
                store.addTold(letters & ~trues, trues, 1);
            }
        }
        return come;
    }

    public int clear() {
        int before = store.told;
        beginAgain();
        store.removeAll();
        return before;
    }

    // ---- the search

    public int score(int variable, int score) throws IllegalArgumentException {
        if (!isVariable(variable) || score < 0 || score > MOST_SCORE) {
            throw new IllegalArgumentException("variable or score");
        }
        int before = search.scores[variable - 1];
        search.scores[variable - 1] = score;
        return before;
    }

    public boolean sign(int variable, boolean is) throws IllegalArgumentException {
        if (!isVariable(variable)) {
            throw new IllegalArgumentException("variable");
        }
        boolean before = (search.signs >> (variable - 1) & 1) != 0;
        int bit = setOf(variable);
        search.signs = is ? search.signs | bit : search.signs & ~bit;
        return before;
    }

    public int step() {
        return search.goOn(store, width);
    }

    public int run(int most) throws IllegalArgumentException {
        if (most < 1 || most > MOST_STEPS) {
            throw new IllegalArgumentException("most");
        }
        int done = 0;
        for (int n = 0; n < most && search.answer == Search.NO_ANSWER; n++) {
            search.goOn(store, width);
            done++;
        }
        return done;
    }

    public int anew() {
        int before = search.size;
        search.startAnew();
        return before;
    }

    public int forget(int most) throws IllegalArgumentException {
        if (most < 0 || most > MOST_LEARNED) {
            throw new IllegalArgumentException("most");
        }
        return search.forgetDownTo(store, most);
    }

    public int blank() {
        blanks++;
        return BLANK_ANSWER;
    }

    public int knock() {
        knocks++;
        return knocks;
    }

    // ---- what is asked of clauses and the search

    public String clause(int clause) throws IndexOutOfBoundsException {
        Clause found = store.find(clause);
        if (found == null) {
            throw new IndexOutOfBoundsException("clause");
        }
        writeClause(found);
        return words.text.toString();
    }

    public int ofClause(int clause, int what) throws IndexOutOfBoundsException, IllegalArgumentException {
        Clause found = store.find(clause);
        if (found == null) {
            throw new IndexOutOfBoundsException("clause");
        }
        if (what < 0 || what >= CLAUSE_NUMBERS) {
            throw new IllegalArgumentException("what");
        }
        return clauseNumber(found, what);
    }

    public int trail(int nth, int what) throws IndexOutOfBoundsException, IllegalArgumentException {
        if (nth < 0 || nth >= search.size) {
            throw new IndexOutOfBoundsException("nth");
        }
        if (what < 0 || what >= TRAIL_NUMBERS) {
            throw new IllegalArgumentException("what");
        }
        return search.trailNumber(nth, what);
    }

    public String trailed() {
        words.text.setLength(0);
        for (int at = 0; at < search.size; at++) {
            if (search.reasons[at] == null) {
                words.putMark('|');
            }
            words.putNumber(search.literals[at]);
        }
        return words.text.toString();
    }

    public String line(int nth) throws IllegalArgumentException {
        if (nth < 0) {
            throw new IllegalArgumentException("nth");
        }
        writeLine(nth);
        return words.text.toString();
    }

    public int house(int what) throws IllegalArgumentException {
        if (what < 0 || what >= HOUSE_NUMBERS) {
            throw new IllegalArgumentException("what");
        }
        parts.refresh(store);
        return what < HOUSE_NUMBERS / 2 ? houseNumber(what) : houseCount(what);
    }

    public String typed() {
        return typing.text.toString();
    }

    public int fault() {
        return typing.firstFault();
    }

    // ---- models

    public int models() {
        refresh();
        return truth.modelCount;
    }

    public String model(int nth) throws IllegalArgumentException {
        if (nth < 0) {
            throw new IllegalArgumentException("nth");
        }
        refresh();
        writeModel(nth);
        return words.text.toString();
    }

    public String fixed() {
        refresh();
        writeFixed();
        return words.text.toString();
    }

    public int part(int part, boolean isModels) throws IndexOutOfBoundsException {
        refresh();
        if (part < 0 || part >= parts.count) {
            throw new IndexOutOfBoundsException("part");
        }
        int set = parts.sets[part];
        return isModels ? modelsOfPart(set) : set;
    }

    public int ofVariable(int variable, int what) throws IllegalArgumentException {
        if (!isVariable(variable) || what < 0 || what >= VARIABLE_NUMBERS) {
            throw new IllegalArgumentException("variable or what");
        }
        return variableNumber(variable, what);
    }

    // ---- what is assumed, cores, weights

    public int assume(int yes, int no) throws IllegalArgumentException {
        if (!isAssumption(yes, no)) {
            throw new IllegalArgumentException("yes or no");
        }
        refresh();
        return modelsWith(yes, no);
    }

    public String failing(int yes, int no) throws IllegalArgumentException {
        if (!isAssumption(yes, no) || Integer.bitCount(yes | no) > MOST_ASSUMED) {
            throw new IllegalArgumentException("yes or no");
        }
        refresh();
        writeFailing(yes, no);
        return words.text.toString();
    }

    public String follows(int yes, int no) throws IllegalArgumentException {
        if (!isAssumption(yes, no)) {
            throw new IllegalArgumentException("yes or no");
        }
        writeFollowing(yes, no);
        return words.text.toString();
    }

    public String core() {
        refresh();
        writeCore();
        return words.text.toString();
    }

    public int leastCore() {
        refresh();
        return truth.modelCount > 0 ? NONE : cover.fewest(truth);
    }

    public int best(boolean isModel) {
        refresh();
        int place = truth.bestPlace();
        return isModel ? place : truth.weightAt(place);
    }

    public boolean isSound() {
        refresh();
        return isAnswerSound() && areLearnedSound() && search.isTrailSound()
                && arePartsSound() && isCoreSound();
    }

    public long digest() {
        refresh();
        long d = DIGEST_START;
        for (int what = 0; what < HOUSE_NUMBERS; what++) {
            d = mixed(d, what < HOUSE_NUMBERS / 2 ? houseNumber(what) : houseCount(what));
        }
        d = digestOfSearch(digestOfClauses(d));
        d = digestOfAssumed(digestOfModels(d));
        return mixed(d, isSound() ? 1 : 0);
    }

    // ---- what is a right argument

    private boolean isVariable(int variable) {
        return variable >= 1 && variable <= width;
    }

    private boolean isLiteralOrNothing(int literal) {
        return literal >= -width && literal <= width;
    }

    private boolean isSetOfVariables(int set) {
        return set >= 0 && set < 1 << width;
    }

    private boolean isAssumption(int yes, int no) {
        return isSetOfVariables(yes) && isSetOfVariables(no) && (yes & no) == 0;
    }

    private static boolean isWeight(int weight) {
        return weight >= 0 && weight <= MOST_WEIGHT;
    }

    // ---- sets

    /** The set of one VARIABLE; the empty one for 0 or below, so that setOf(-literal) serves OPPOSITES. */
    private static int setOf(int variable) {
        return variable >= 1 && variable <= MOST_VARIABLES ? 1 << (variable - 1) : 0;
    }

    private static int smallestOf(int set) {
        return Integer.bitCount((set & -set) - 1) + 1;
    }

    /** How many sets of so many there are out of all; the products of four numbers to 12 stay small. */
    private static int choose(int all, int many) {
        int ways = 1;
        for (int n = 0; n < many; n++) {
            ways = ways * (all - n) / (n + 1);
        }
        return ways;
    }

    /** Turns a set round, VARIABLE 1 to the highest bit: then ORDER is that of numbers. */
    private static int mirrored(int set, int width) {
        int other = 0;
        for (int n = 0; n < width; n++) {
            if ((set >> n & 1) != 0) {
                other |= 1 << (width - 1 - n);
            }
        }
        return other;
    }

    // ---- changes

    private void beginAgain() {
        search.startAnew();
        search.proof.empty();
        store.removeLearned();
    }

    /** Mirrored subsets fall from the highest on, so those of one size come by their smallest VARIABLES. */
    private void addSubsets(int variables, int many) {
        int whole = mirrored(variables, width);
        int subset = whole;
        for (int n = 0; n < Truth.PLACES && subset != 0; n++) {
            if (Integer.bitCount(subset) == many) {
                store.addTold(0, mirrored(subset, width), 1);
            }
            subset = (subset - 1) & whole;
        }
    }

    // ---- numbers

    /** Brings what is computed of the told CLAUSES up to date; each public method that asks calls it. */
    private void refresh() {
        truth.refresh(store, width);
        parts.refresh(store);
    }

    private int clauseNumber(Clause clause, int what) {
        switch (what) {
            case 0: return clause.length();
            case 1: return clause.isLearned ? 1 : 0;
            case 2: return clause.weight;
            case 3: return clause.isLearned ? clause.use : 0;
            case 4: return clause.isAlwaysTrue() ? 1 : 0;
            case 5: return clause.state(search.trues, search.falses);
            case 6: return search.isReason(clause) ? 1 : 0;
            default: return store.smallestIn(clause);
        }
    }

    private int houseNumber(int what) {
        switch (what) {
            case 0: return width;
            case 1: return store.told;
            case 2: return store.learned();
            case 3: return store.ever;
            case 4: return search.answer;
            case 5: return search.level;
            case 6: return search.size;
            default: return search.proof.lines;
        }
    }

    private int houseCount(int what) {
        switch (what) {
            case 8: return blanks;
            case 9: return knocks;
            case 10: return store.weights();
            case 11: return parts.count;
            case 12: return typing.text.length();
            case 13: return search.choices;
            case 14: return search.learnings;
            default: return width - Integer.bitCount(parts.standing);
        }
    }

    private int variableNumber(int variable, int what) {
        int bit = setOf(variable);
        switch (what) {
            case 0: return store.countWith(bit, 0);
            case 1: return store.countWith(0, bit);
            case 2: return store.countJoined(bit);
            default: return store.standsBothWays(bit) ? 0 : 1;
        }
    }

    private int modelsWith(int yes, int no) {
        return truth.countWith(mirrored(yes, width), mirrored(no, width));
    }

    /** Each MODEL of the PART is counted once for each way of all other VARIABLES. */
    private int modelsOfPart(int set) {
        int all = truth.countOf(store.toldTouching(set));
        return all >> (width - Integer.bitCount(set));
    }

    // ---- texts

    private void writeClause(Clause clause) {
        words.text.setLength(0);
        words.putLiterals(clause.yes, clause.no);
        if (clause.length() == 0) {
            words.text.append('-');
        }
    }

    private void writeLine(int nth) {
        words.text.setLength(0);
        Proof proof = search.proof;
        if (nth < 0 || nth >= proof.lines) {
            words.text.append('!');
            return;
        }
        for (int at = proof.startOf(nth); at < proof.ends[nth]; at++) {
            words.putNumber(proof.numbers[at]);
        }
    }

    private void writeModel(int nth) {
        words.text.setLength(0);
        int place = truth.placeOfModel(nth);
        if (place == NONE) {
            words.text.append('!');
            return;
        }
        int trues = mirrored(place, width);
        words.putLiterals(trues, ((1 << width) - 1) & ~trues);
    }

    private void writeFixed() {
        words.text.setLength(0);
        int all = truth.modelCount;
        if (all == 0) {
            words.text.append('!');
            return;
        }
        for (int variable = 1; variable <= width; variable++) {
            int with = modelsWith(setOf(variable), 0);
            if (with == all) {
                words.putNumber(variable);
            } else if (with == 0) {
                words.putNumber(-variable);
            }
        }
    }

    private void writeFailing(int yes, int no) {
        words.text.setLength(0);
        if (truth.modelCount == 0) {
            words.text.append('-');
            return;
        }
        if (modelsWith(yes, no) > 0) {
            return;
        }
        int least = mirrored(leastFailing(mirrored(yes, width), mirrored(no, width)), width);
        words.putLiterals(yes & least, no & least);
    }

    /** Of the subsets of one size the first one in falling order is that with the first LITERALS. */
    private int leastFailing(int ones, int zeros) {
        int whole = ones | zeros;
        int least = whole;
        int subset = whole;
        for (int n = 0; n < Truth.PLACES && subset != 0; n++) {
            if (Integer.bitCount(subset) < Integer.bitCount(least)
                    && truth.countWith(ones & subset, zeros & subset) == 0) {
                least = subset;
            }
            subset = (subset - 1) & whole;
        }
        return least;
    }

    private void writeFollowing(int yes, int no) {
        words.text.setLength(0);
        int trues = yes;
        int falses = no;
        for (int n = 0; n <= MOST_VARIABLES; n++) {
            if (store.first(Clause.FALSE, trues, falses, true) != null) {
                words.text.setLength(0);
                words.text.append('!');
                return;
            }
            Clause unit = store.first(Clause.UNIT, trues, falses, true);
            if (unit == null) {
                return;
            }
            int literal = unit.literalLeft(trues | falses);
            words.putNumber(literal);
            trues |= setOf(literal);
            falses |= setOf(-literal);
        }
    }

    private void writeCore() {
        words.text.setLength(0);
        if (truth.modelCount > 0) {
            words.text.append('!');
            return;
        }
        int kept = truth.coreOfAll();
        for (int nth = 0; nth < truth.told; nth++) {
            if ((kept >> nth & 1) != 0) {
                words.putNumber(truth.numbers[nth]);
            }
        }
    }

    // ---- what is sound

    private boolean isAnswerSound() {
        if (search.answer == Search.YES) {
            return store.areAllTrue(search.trues, search.falses);
        }
        if (search.answer == Search.NO) {
            return truth.modelCount == 0 && search.proof.endsWithLast();
        }
        return true;
    }

    private boolean areLearnedSound() {
        for (int n = 0; n < store.clauses.size(); n++) {
            Clause clause = store.clauses.get(n);
            if (clause.isLearned && modelsWith(clause.no, clause.yes) > 0) {
                return false;
            }
        }
        return true;
    }

    private boolean arePartsSound() {
        if (store.hasEmptyTold()) {
            return true;
        }
        long product = 1L << (width - Integer.bitCount(parts.standing));
        for (int n = 0; n < parts.count; n++) {
            product *= modelsOfPart(parts.sets[n]);
        }
        return product == truth.modelCount;
    }

    private boolean isCoreSound() {
        if (truth.modelCount > 0) {
            return true;
        }
        int kept = truth.coreOfAll();
        if (truth.haveModel(kept)) {
            return false;
        }
        for (int nth = 0; nth < truth.told; nth++) {
            int bit = 1 << nth;
            if ((kept & bit) != 0 && !truth.haveModel(kept & ~bit)) {
                return false;
            }
        }
        return true;
    }

    // ---- the digest

    private static long mixed(long d, long number) {
        return d * 31L + number;
    }

    private long digestOfClauses(long start) {
        long d = start;
        for (int n = 0; n < store.clauses.size(); n++) {
            Clause clause = store.clauses.get(n);
            d = mixed(d, clause.number);
            for (int what = 0; what < CLAUSE_NUMBERS; what++) {
                d = mixed(d, clauseNumber(clause, what));
            }
            writeClause(clause);
            d = mixed(d, words.text.length());
        }
        return d;
    }

    private long digestOfSearch(long start) {
        long d = start;
        for (int at = 0; at < search.size; at++) {
            for (int what = 0; what < TRAIL_NUMBERS; what++) {
                d = mixed(d, search.trailNumber(at, what));
            }
        }
        int lines = search.proof.lines;
        for (int n = 1; n <= LINES_OF_DIGEST && n <= lines; n++) {
            writeLine(lines - n);
            d = mixed(d, words.text.length());
        }
        return d;
    }

    private long digestOfModels(long start) {
        long d = mixed(start, typing.firstFault());
        d = mixed(d, truth.modelCount);
        writeModel(0);
        d = mixed(d, words.text.length());
        writeFixed();
        d = mixed(d, words.text.length());
        for (int n = 0; n < parts.count; n++) {
            d = mixed(d, modelsOfPart(parts.sets[n]));
            d = mixed(d, parts.sets[n]);
        }
        for (int variable = 1; variable <= width; variable++) {
            for (int what = 0; what < VARIABLE_NUMBERS; what++) {
                d = mixed(d, variableNumber(variable, what));
            }
        }
        return d;
    }

    private long digestOfAssumed(long start) {
        long d = mixed(start, modelsWith(1, 0));
        writeFailing(1, 0);
        d = mixed(d, words.text.length());
        writeFollowing(1, 0);
        d = mixed(d, words.text.length());
        writeCore();
        d = mixed(d, words.text.length());
        int place = truth.bestPlace();
        d = mixed(d, truth.weightAt(place));
        return mixed(d, place);
    }

    /** A CLAUSE: the VARIABLES of its LITERALS v, and those of its LITERALS -v. */
    private static final class Clause {
        static final int TRUE = 0;
        static final int FALSE = 1;
        static final int UNIT = 2;
        static final int OTHER = 3;

        final int number;
        final int yes;
        final int no;
        final boolean isLearned;
        int weight;
        int use;

        Clause(int number, int yes, int no, int weight, boolean isLearned) {
            this.number = number;
            this.yes = yes;
            this.no = no;
            this.weight = weight;
            this.isLearned = isLearned;
        }

        int length() {
            return Integer.bitCount(yes) + Integer.bitCount(no);
        }

        boolean isAlwaysTrue() {
            return (yes & no) != 0;
        }

        int state(int trues, int falses) {
            if ((yes & trues) != 0 || (no & falses) != 0) {
                return TRUE;
            }
            int known = trues | falses;
            int left = Integer.bitCount(yes & ~known) + Integer.bitCount(no & ~known);
            if (left == 0) {
                return FALSE;
            }
            return left == 1 ? UNIT : OTHER;
        }

        /** The LITERAL of a UNIT that is neither way yet. */
        int literalLeft(int known) {
            int left = yes & ~known;
            return left != 0 ? smallestOf(left) : -smallestOf(no & ~known);
        }

        boolean isIn(Clause other) {
            if (this == other || isLearned || isAlwaysTrue()) {
                return false;
            }
            boolean isAlike = yes == other.yes && no == other.no;
            boolean isWithin = (yes & ~other.yes) == 0 && (no & ~other.no) == 0;
            return isWithin && (!isAlike || number < other.number);
        }
    }

    /** The CLAUSES that are there, by rising numbers. */
    private static final class Store {
        final ArrayList<Clause> clauses = new ArrayList<Clause>();
        int told;
        int ever;
        /** Rises with all that told CLAUSES or WIDTH change, so that what is computed of them is kept. */
        int version;

        int learned() {
            return clauses.size() - told;
        }

        int addTold(int yes, int no, int weight) {
            int number = ever;
            clauses.add(new Clause(number, yes, no, weight, false));
            ever++;
            told++;
            version++;
            return number;
        }

        void addLearned(int yes, int no) {
            clauses.add(new Clause(ever, yes, no, 0, true));
            ever++;
        }

        Clause find(int number) {
            for (int n = 0; n < clauses.size(); n++) {
                Clause clause = clauses.get(n);
                if (clause.number == number) {
                    return clause;
                }
            }
            return null;
        }

        Clause findTold(int number) {
            Clause clause = find(number);
            return clause == null || clause.isLearned ? null : clause;
        }

        void removeTold(Clause clause) {
            for (int n = 0; n < clauses.size(); n++) {
                if (clauses.get(n) == clause) {
                    clauses.remove(n);
                    told--;
                    version++;
                    return;
                }
            }
        }

        void removeLearned() {
            for (int n = clauses.size() - 1; n >= 0; n--) {
                if (clauses.get(n).isLearned) {
                    clauses.remove(n);
                }
            }
        }

        void removeAll() {
            clauses.clear();
            told = 0;
            version++;
        }

        /** The first CLAUSE, or the first told one, in this state; null if there is none. */
        Clause first(int state, int trues, int falses, boolean isToldAlone) {
            for (int n = 0; n < clauses.size(); n++) {
                Clause clause = clauses.get(n);
                boolean isMeant = !isToldAlone || !clause.isLearned;
                if (isMeant && clause.state(trues, falses) == state) {
                    return clause;
                }
            }
            return null;
        }

        boolean areAllTrue(int trues, int falses) {
            for (int n = 0; n < clauses.size(); n++) {
                if (clauses.get(n).state(trues, falses) != Clause.TRUE) {
                    return false;
                }
            }
            return true;
        }

        boolean hasEmptyTold() {
            for (int n = 0; n < clauses.size(); n++) {
                Clause clause = clauses.get(n);
                if (!clause.isLearned && clause.length() == 0) {
                    return true;
                }
            }
            return false;
        }

        int smallestIn(Clause other) {
            for (int n = 0; n < clauses.size(); n++) {
                Clause clause = clauses.get(n);
                if (clause.isIn(other)) {
                    return clause.number;
                }
            }
            return NONE;
        }

        int weights() {
            int sum = 0;
            for (int n = 0; n < clauses.size(); n++) {
                sum += clauses.get(n).weight;
            }
            return sum;
        }

        /** How many told CLAUSES have one of the LITERALS v of yes, or -v of no. */
        int countWith(int yes, int no) {
            int count = 0;
            for (int n = 0; n < clauses.size(); n++) {
                Clause clause = clauses.get(n);
                if (!clause.isLearned && ((clause.yes & yes) != 0 || (clause.no & no) != 0)) {
                    count++;
                }
            }
            return count;
        }

        /** How many JOININGS of told CLAUSES on a VARIABLE are not ALWAYS TRUE. */
        int countJoined(int bit) {
            int count = 0;
            for (int n = 0; n < clauses.size(); n++) {
                Clause clause = clauses.get(n);
                if (!clause.isLearned && !clause.isAlwaysTrue() && (clause.yes & bit) != 0) {
                    count += countJoinedWith(clause, bit);
                }
            }
            return count;
        }

        private int countJoinedWith(Clause one, int bit) {
            int count = 0;
            for (int n = 0; n < clauses.size(); n++) {
                Clause other = clauses.get(n);
                if (other.isLearned || other.isAlwaysTrue() || (other.no & bit) == 0) {
                    continue;
                }
                int yes = (one.yes | other.yes) & ~bit;
                int no = (one.no | other.no) & ~bit;
                if ((yes & no) == 0) {
                    count++;
                }
            }
            return count;
        }

        boolean standsBothWays(int bit) {
            int yes = 0;
            int no = 0;
            for (int n = 0; n < clauses.size(); n++) {
                Clause clause = clauses.get(n);
                if (!clause.isLearned && !clause.isAlwaysTrue()) {
                    yes |= clause.yes;
                    no |= clause.no;
                }
            }
            return (yes & no & bit) != 0;
        }

        /** The told CLAUSES, each by its place among these, that have a VARIABLE of the set. */
        int toldTouching(int set) {
            int touching = 0;
            int nth = 0;
            for (int n = 0; n < clauses.size(); n++) {
                Clause clause = clauses.get(n);
                if (clause.isLearned) {
                    continue;
                }
                if (((clause.yes | clause.no) & set) != 0) {
                    touching |= 1 << nth;
                }
                nth++;
            }
            return touching;
        }
    }

    /** The LINES of the PROOF, one behind the other in one row of numbers. */
    private static final class Proof {
        /** 512 calls of 60 STEPS, of which each gives a LINE of at most 14 numbers, stay below. */
        static final int MOST_NUMBERS = 1 << 19;

        int[] numbers = new int[256];
        int[] ends = new int[32];
        int lines;
        int filled;

        void empty() {
            lines = 0;
            filled = 0;
        }

        void putNumber(int number) {
            if (filled >= numbers.length) {
                numbers = longer(numbers);
            }
            if (filled < numbers.length) {
                numbers[filled] = number;
                filled++;
            }
        }

        void endLine() {
            if (lines >= ends.length) {
                ends = longer(ends);
            }
            if (lines < ends.length) {
                ends[lines] = filled;
                lines++;
            }
        }

        private static int[] longer(int[] row) {
            return row.length >= MOST_NUMBERS ? row : Arrays.copyOf(row, row.length * 2);
        }

        int startOf(int nth) {
            return nth >= 1 && nth <= lines ? ends[nth - 1] : 0;
        }

        boolean endsWithLast() {
            int start = startOf(lines - 1);
            return lines > 0 && start < filled && numbers[start] == NONE;
        }
    }

    /** The search: TRAIL, SCORES, SIGNS, ANSWER, PROOF. */
    private static final class Search {
        static final int NO_ANSWER = 0;
        static final int YES = 1;
        static final int NO = 2;
        static final int DID_NOTHING = 0;
        static final int DID_UNIT = 1;
        static final int DID_CHOICE = 2;
        static final int DID_LEARN = 3;
        static final int DID_YES = 4;
        static final int DID_NO = 5;

        final int[] literals = new int[MOST_VARIABLES];
        final int[] levels = new int[MOST_VARIABLES];
        /** The REASONS by place, null of a CHOICE. */
        final Clause[] reasons = new Clause[MOST_VARIABLES];
        final int[] scores = new int[MOST_VARIABLES];
        final Proof proof = new Proof();
        int signs = (1 << MOST_VARIABLES) - 1;
        int size;
        int level;
        int answer;
        /** The VARIABLES that are true and those that are false by the TRAIL. */
        int trues;
        int falses;
        int choices;
        int learnings;

        void startAnew() {
            jumpBelow(0);
            level = 0;
            answer = NO_ANSWER;
        }

        /** One STEP. */
        int goOn(Store store, int width) {
            if (answer != NO_ANSWER) {
                return DID_NOTHING;
            }
            Clause conflict = store.first(Clause.FALSE, trues, falses, false);
            if (conflict != null) {
                return learnFrom(conflict, store);
            }
            Clause unit = store.first(Clause.UNIT, trues, falses, false);
            if (unit != null) {
                push(unit.literalLeft(trues | falses), unit);
                return DID_UNIT;
            }
            int variable = chosen(width);
            if (variable == NONE) {
                answer = YES;
                return DID_YES;
            }
            level++;
            choices++;
            push((signs & setOf(variable)) != 0 ? variable : -variable, null);
            return DID_CHOICE;
        }

        private void push(int literal, Clause reason) {
            if (size >= MOST_VARIABLES) {
                return;
            }
            literals[size] = literal;
            levels[size] = level;
            reasons[size] = reason;
            size++;
            trues |= setOf(literal);
            falses |= setOf(-literal);
        }

        private int chosen(int width) {
            int best = NONE;
            int bestScore = NONE;
            for (int variable = 1; variable <= width && variable <= MOST_VARIABLES; variable++) {
                boolean isOpen = ((trues | falses) & setOf(variable)) == 0;
                if (isOpen && scores[variable - 1] > bestScore) {
                    best = variable;
                    bestScore = scores[variable - 1];
                }
            }
            return best;
        }

        /** Backwards along the TRAIL, each LITERAL met is the one of the RESULT that came last. */
        private int learnFrom(Clause conflict, Store store) {
            boolean isLast = level == 0;
            int here = variablesFrom(level);
            int yes = conflict.yes;
            int no = conflict.no;
            conflict.use++;
            learnings++;
            proof.putNumber(isLast ? NONE : store.ever);
            proof.putNumber(conflict.number);
            for (int at = size - 1; at >= 0; at--) {
                if (!isLast && Integer.bitCount((yes | no) & here) <= 1) {
                    break;
                }
                int bit = setOf(Math.abs(literals[at]));
                Clause reason = reasons[at];
                if (((yes | no) & bit) != 0 && reason != null) {
                    reason.use++;
                    proof.putNumber(reason.number);
                    yes = (yes | reason.yes) & ~bit;
                    no = (no | reason.no) & ~bit;
                }
            }
            proof.endLine();
            if (isLast) {
                answer = NO;
                return DID_NO;
            }
            jumpTo(greatestLevelOf((yes | no) & ~here));
            forgetDownTo(store, MOST_LEARNED - 1);
            store.addLearned(yes, no);
            return DID_LEARN;
        }

        /** The VARIABLES that came at this LEVEL or a greater one. */
        private int variablesFrom(int least) {
            int set = 0;
            for (int at = 0; at < size; at++) {
                if (levels[at] >= least) {
                    set |= setOf(Math.abs(literals[at]));
                }
            }
            return set;
        }

        private int greatestLevelOf(int set) {
            int greatest = 0;
            for (int at = 0; at < size; at++) {
                if ((set & setOf(Math.abs(literals[at]))) != 0) {
                    greatest = Math.max(greatest, levels[at]);
                }
            }
            return greatest;
        }

        private void jumpTo(int jump) {
            int stay = 0;
            for (int at = 0; at < size; at++) {
                if (levels[at] <= jump) {
                    stay++;
                }
            }
            jumpBelow(stay);
            level = jump;
        }

        /** Takes off what stands at this place of the TRAIL or behind it. */
        private void jumpBelow(int place) {
            for (int at = size - 1; at >= place && at >= 0; at--) {
                int bit = setOf(Math.abs(literals[at]));
                trues &= ~bit;
                falses &= ~bit;
                reasons[at] = null;
                size = at;
            }
        }

        boolean isReason(Clause clause) {
            for (int at = 0; at < size; at++) {
                if (reasons[at] == clause) {
                    return true;
                }
            }
            return false;
        }

        int forgetDownTo(Store store, int most) {
            int forgotten = 0;
            for (int n = 0; n < MOST_LEARNED && store.learned() > most; n++) {
                int at = leastUsed(store);
                if (at < 0 || at >= store.clauses.size()) {
                    break;
                }
                store.clauses.remove(at);
                forgotten++;
            }
            return forgotten;
        }

        /** Where the LEARNED clause stands that is FORGOTTEN next. */
        private int leastUsed(Store store) {
            int least = NONE;
            int leastUse = 0;
            for (int n = 0; n < store.clauses.size(); n++) {
                Clause clause = store.clauses.get(n);
                if (!clause.isLearned || isReason(clause)) {
                    continue;
                }
                if (least == NONE || clause.use < leastUse) {
                    least = n;
                    leastUse = clause.use;
                }
            }
            return least;
        }

        int trailNumber(int at, int what) {
            if (at < 0 || at >= size) {
                return NONE;
            }
            Clause reason = reasons[at];
            switch (what) {
                case 0: return literals[at];
                case 1: return levels[at];
                default: return reason == null ? NONE : reason.number;
            }
        }

        boolean isTrailSound() {
            int trueAhead = 0;
            int falseAhead = 0;
            for (int at = 0; at < size; at++) {
                Clause reason = reasons[at];
                int yes = setOf(literals[at]);
                int no = setOf(-literals[at]);
                if (reason != null && !isSoundReason(reason, yes, no, trueAhead, falseAhead)) {
                    return false;
                }
                trueAhead |= yes;
                falseAhead |= no;
            }
            return true;
        }

        private static boolean isSoundReason(Clause reason, int yes, int no, int trueAhead, int falseAhead) {
            boolean hasLiteral = (reason.yes & yes) == yes && (reason.no & no) == no;
            boolean areOthersFalse = (reason.yes & ~yes & ~falseAhead) == 0
                    && (reason.no & ~no & ~trueAhead) == 0;
            return hasLiteral && areOthersFalse;
        }
    }

    /**
     * Which ASSIGNMENTS make the told CLAUSES true. The place of an ASSIGNMENT in ORDER is a number
     * with bit WIDTH - v for a true v; a row has one bit for each place, 64 to a word.
     */
    private static final class Truth {
        static final int PLACES = 1 << MOST_VARIABLES;
        static final int WORDS = PLACES / 64;
        private static final int LOW = 6;
        /** The places of a word that have bit n, n from 0 to 5. */
        private static final long[] WITH_BIT = {
            0xAAAAAAAAAAAAAAAAL, 0xCCCCCCCCCCCCCCCCL, 0xF0F0F0F0F0F0F0F0L,
            0xFF00FF00FF00FF00L, 0xFFFF0000FFFF0000L, 0xFFFFFFFF00000000L};

        final int[] numbers = new int[MOST_TOLD];
        final int[] weights = new int[MOST_TOLD];
        /** The bits that a place has, and those that it lacks, by which the CLAUSE is false. */
        final int[] ones = new int[MOST_TOLD];
        final int[] zeros = new int[MOST_TOLD];
        final long[] rows = new long[MOST_TOLD * WORDS];
        final long[] models = new long[WORDS];
        final int[] losses = new int[PLACES];
        int told;
        int modelCount;
        int words;
        long whole;
        private int width;
        private int version = NONE;
        private int best = NONE;

        void refresh(Store store, int newWidth) {
            if (version == store.version) {
                return;
            }
            version = store.version;
            width = newWidth;
            words = width <= LOW ? 1 : 1 << (width - LOW);
            whole = width < LOW ? (1L << (1 << width)) - 1L : -1L;
            best = NONE;
            told = 0;
            for (int n = 0; n < store.clauses.size(); n++) {
                Clause clause = store.clauses.get(n);
                if (!clause.isLearned && told < MOST_TOLD) {
                    addRow(clause);
                }
            }
            modelCount = 0;
            for (int word = 0; word < words; word++) {
                models[word] = wordOf(-1, word);
                modelCount += Long.bitCount(models[word]);
            }
        }

        private void addRow(Clause clause) {
            numbers[told] = clause.number;
            weights[told] = clause.weight;
            ones[told] = mirrored(clause.no, width);
            zeros[told] = mirrored(clause.yes, width);
            long low = lowWord(ones[told], zeros[told]);
            for (int word = 0; word < words; word++) {
                boolean isTouched = reaches(word, ones[told], zeros[told]);
                rows[told * WORDS + word] = isTouched ? ~low : -1L;
            }
            told++;
        }

        /** The places of a word that have these ones and lack these zeros, by their lowest bits alone. */
        private static long lowWord(int ones, int zeros) {
            long low = -1L;
            for (int n = 0; n < LOW; n++) {
                if ((ones >> n & 1) != 0) {
                    low &= WITH_BIT[n];
                }
                if ((zeros >> n & 1) != 0) {
                    low &= ~WITH_BIT[n];
                }
            }
            return low;
        }

        /** Whether the places of a word have these ones and lack these zeros, by their other bits. */
        private static boolean reaches(int word, int ones, int zeros) {
            return (ones >> LOW & ~word) == 0 && (zeros >> LOW & word) == 0;
        }

        /** The places of a word by which all of the told CLAUSES chosen are true. */
        private long wordOf(int chosen, int word) {
            long left = whole;
            for (int nth = 0; nth < told && left != 0L; nth++) {
                if ((chosen >> nth & 1) != 0) {
                    left &= rows[nth * WORDS + word];
                }
            }
            return left;
        }

        int countOf(int chosen) {
            int count = 0;
            for (int word = 0; word < words; word++) {
                count += Long.bitCount(wordOf(chosen, word));
            }
            return count;
        }

        boolean haveModel(int chosen) {
            for (int word = 0; word < words; word++) {
                if (wordOf(chosen, word) != 0L) {
                    return true;
                }
            }
            return false;
        }

        int countWith(int withOnes, int withZeros) {
            long low = lowWord(withOnes, withZeros);
            int count = 0;
            for (int word = 0; word < words; word++) {
                if (reaches(word, withOnes, withZeros)) {
                    count += Long.bitCount(models[word] & low);
                }
            }
            return count;
        }

        int placeOfModel(int nth) {
            int ahead = 0;
            for (int word = 0; word < words; word++) {
                int here = Long.bitCount(models[word]);
                if (nth < ahead + here) {
                    return word * 64 + bitOfNth(models[word], nth - ahead);
                }
                ahead += here;
            }
            return NONE;
        }

        private static int bitOfNth(long word, int nth) {
            long left = word;
            for (int n = 0; n < nth && n < 64; n++) {
                left &= left - 1L;
            }
            return Long.bitCount((left & -left) - 1L);
        }

        /** THE CORE if there is no MODEL: the told CLAUSES, each by its place among these. */
        int coreOfAll() {
            int kept = (1 << told) - 1;
            for (int nth = 0; nth < told; nth++) {
                int without = kept & ~(1 << nth);
                if (!haveModel(without)) {
                    kept = without;
                }
            }
            return kept;
        }

        /** Adds an amount at each place by which the told CLAUSE is false. */
        void addWhereFalse(int[] sums, int nth, int amount) {
            if (nth < 0 || nth >= told || (ones[nth] & zeros[nth]) != 0) {
                return;
            }
            int free = ((1 << width) - 1) & ~(ones[nth] | zeros[nth]);
            int subset = free;
            for (int n = 0; n < PLACES; n++) {
                int place = ones[nth] | subset;
                if (place < sums.length) {
                    sums[place] += amount;
                }
                if (subset == 0) {
                    return;
                }
                subset = (subset - 1) & free;
            }
        }

        /** The first place with the smallest WEIGHT of what is false. */
        int bestPlace() {
            if (best != NONE) {
                return best;
            }
            Arrays.fill(losses, 0);
            for (int nth = 0; nth < told; nth++) {
                addWhereFalse(losses, nth, weights[nth]);
            }
            best = 0;
            for (int place = 1; place < 1 << width; place++) {
                if (losses[place] < losses[best]) {
                    best = place;
                }
            }
            return best;
        }

        int weightAt(int place) {
            int sum = place >= 0 && place < PLACES ? -losses[place] : 0;
            for (int nth = 0; nth < told; nth++) {
                sum += weights[nth];
            }
            return sum;
        }

        int places() {
            return 1 << width;
        }

        boolean isFalseAt(int nth, int place) {
            return (place & ones[nth]) == ones[nth] && (place & zeros[nth]) == 0;
        }

        /** By how many places the CLAUSE with most of them is false. */
        int mostFalse() {
            int most = 0;
            for (int nth = 0; nth < told; nth++) {
                if ((ones[nth] & zeros[nth]) == 0) {
                    most = Math.max(most, places() >> Integer.bitCount(ones[nth] | zeros[nth]));
                }
            }
            return most;
        }
    }

    /** LEAST CORE: the fewest told CLAUSES of which by each place one at least is false. */
    private static final class Cover {
        private static final int MOST_CHOSEN = 5;

        /** For each depth the places by which all CLAUSES chosen so far are true. */
        private final long[] open = new long[(MOST_CHOSEN + 1) * Truth.WORDS];
        private final int[] falseAt = new int[Truth.PLACES];
        private final int[] order = new int[Truth.PLACES];
        private final int[] starts = new int[MOST_TOLD + 2];
        private int mostFalse;

        int fewest(Truth truth) {
            for (int word = 0; word < truth.words; word++) {
                open[word] = truth.whole;
            }
            mostFalse = truth.mostFalse();
            orderPlaces(truth);
            for (int many = 1; many <= MOST_CHOSEN; many++) {
                if (mostFalse * many >= truth.places() && covers(this, truth, 0, many)) {
                    return many;
                }
            }
            return NONE;
        }

        /** Places by which few CLAUSES are false go first, since the search branches least there. */
        private void orderPlaces(Truth truth) {
            Arrays.fill(falseAt, 0);
            Arrays.fill(starts, 0);
            for (int nth = 0; nth < truth.told; nth++) {
                truth.addWhereFalse(falseAt, nth, 1);
            }
            for (int place = 0; place < truth.places(); place++) {
                starts[falseAt[place] + 1]++;
            }
            for (int n = 1; n < starts.length; n++) {
                starts[n] += starts[n - 1];
            }
            for (int place = 0; place < truth.places(); place++) {
                int bucket = falseAt[place];
                order[starts[bucket]] = place;
                starts[bucket]++;
            }
        }

        /** Whether so many CLAUSES more leave no place open; the first open place needs one of its own. */
        private static boolean covers(Cover cover, Truth truth, int depth, int left) {
            int place = cover.firstOpen(truth, depth);
            if (place == NONE) {
                return true;
            }
            if (left <= 0 || depth >= MOST_CHOSEN) {
                return false;
            }
            for (int nth = 0; nth < truth.told; nth++) {
                if (!truth.isFalseAt(nth, place)) {
                    continue;
                }
                int stillOpen = cover.narrow(truth, depth, nth);
                if (stillOpen == 0) {
                    return true;
                }
                boolean canDo = stillOpen <= (left - 1) * cover.mostFalse;
                if (canDo && covers(cover, truth, depth + 1, left - 1)) {
                    return true;
                }
            }
            return false;
        }

        private int firstOpen(Truth truth, int depth) {
            for (int n = 0; n < truth.places(); n++) {
                int place = order[n];
                if ((open[depth * Truth.WORDS + (place >> 6)] >> (place & 63) & 1L) != 0L) {
                    return place;
                }
            }
            return NONE;
        }

        /** Fills the row of the next depth; answers how many places it has. */
        private int narrow(Truth truth, int depth, int nth) {
            int count = 0;
            for (int word = 0; word < truth.words; word++) {
                long next = open[depth * Truth.WORDS + word] & truth.rows[nth * Truth.WORDS + word];
                open[(depth + 1) * Truth.WORDS + word] = next;
                count += Long.bitCount(next);
            }
            return count;
        }
    }

    /** The PARTS by their smallest VARIABLES. */
    private static final class Parts {
        final int[] sets = new int[MOST_VARIABLES];
        int count;
        /** The VARIABLES that are of some PART. */
        int standing;
        private int version = NONE;

        void refresh(Store store) {
            if (version == store.version) {
                return;
            }
            version = store.version;
            standing = grown(store, NONE);
            count = 0;
            int left = standing;
            for (int n = 0; n < MOST_VARIABLES && left != 0; n++) {
                int set = left & -left;
                for (int round = 0; round < MOST_VARIABLES; round++) {
                    set |= grown(store, set);
                }
                sets[count] = set;
                count++;
                left &= ~set;
            }
        }

        /** All VARIABLES that stand with one of the set in a told CLAUSE. */
        private static int grown(Store store, int set) {
            int all = 0;
            for (int n = 0; n < store.clauses.size(); n++) {
                Clause clause = store.clauses.get(n);
                int variables = clause.yes | clause.no;
                if (!clause.isLearned && !clause.isAlwaysTrue() && (variables & set) != 0) {
                    all |= variables;
                }
            }
            return all;
        }
    }

    /** TYPED, its FAULT, and what its SENTENCE says. */
    private static final class Typing {
        private static final String SIGNS = "abcdefghijkl!*+>=()";
        private static final int BACK = 19;
        private static final int ALL_BACK = 20;
        private static final int MOST_SIGNS = 40;
        private static final int MOST_OPEN = 4;
        /** For the nth VARIABLE from the last one on, the rows of a table in which it is true. */
        private static final int[] COLUMNS = {0xAAAA, 0xCCCC, 0xF0F0, 0xFF00};

        final StringBuilder text = new StringBuilder();
        private final int[] codes = new int[6];
        private int at;
        private int variables;

        /** Keeps the codes for what is asked next; whether all of them are codes, or nothing. */
        boolean takesAll(int a, int b, int c, int d, int e, int f) {
            codes[0] = a;
            codes[1] = b;
            codes[2] = c;
            codes[3] = d;
            codes[4] = e;
            codes[5] = f;
            for (int n = 0; n < codes.length; n++) {
                if (codes[n] < NONE || codes[n] > ALL_BACK) {
                    return false;
                }
            }
            return true;
        }

        boolean hasRoom() {
            int length = text.length();
            for (int n = 0; n < codes.length; n++) {
                length = lengthBehind(length, codes[n]);
                if (length > MOST_SIGNS) {
                    return false;
                }
            }
            return true;
        }

        private static int lengthBehind(int length, int code) {
            if (code == NONE) {
                return length;
            }
            if (code == ALL_BACK) {
                return 0;
            }
            return code == BACK ? Math.max(0, length - 1) : length + 1;
        }

        void typeAll() {
            for (int n = 0; n < codes.length; n++) {
                int code = codes[n];
                if (code >= 0 && code < SIGNS.length()) {
                    text.append(SIGNS.charAt(code));
                } else {
                    text.setLength(lengthBehind(text.length(), code));
                }
            }
        }

        private static boolean isLetter(char sign) {
            return sign >= 'a' && sign <= 'l';
        }

        int letters() {
            int set = 0;
            for (int n = 0; n < text.length(); n++) {
                char sign = text.charAt(n);
                if (isLetter(sign)) {
                    set |= setOf(sign - 'a' + 1);
                }
            }
            return set;
        }

        /** All SIGNS between FACTORS are alike here: behind each of them some SENTENCE goes on. */
        int firstFault() {
            boolean wantsFactor = true;
            int brackets = 0;
            for (int n = 0; n < text.length(); n++) {
                char sign = text.charAt(n);
                if (isLetter(sign) || sign == '!' || sign == '(') {
                    if (!wantsFactor || sign == '(' && brackets == MOST_OPEN) {
                        return n;
                    }
                    wantsFactor = !isLetter(sign);
                    brackets += sign == '(' ? 1 : 0;
                } else {
                    if (wantsFactor || sign == ')' && brackets == 0) {
                        return n;
                    }
                    wantsFactor = sign != ')';
                    brackets -= sign == ')' ? 1 : 0;
                }
            }
            return wantsFactor || brackets > 0 ? text.length() : NONE;
        }

        /** The true VARIABLES in this row of a table, which has the ASSIGNMENTS in ORDER. */
        static int truesOf(int letters, int row) {
            int trues = 0;
            int left = letters;
            for (int n = Integer.bitCount(letters) - 1; n >= 0; n--) {
                int bit = left & -left;
                left &= ~bit;
                if ((row >> n & 1) != 0) {
                    trues |= bit;
                }
            }
            return trues;
        }

        /** For a SENTENCE of at most 4 VARIABLES a bit for each row by which it is true. */
        int tableOf(int letters) {
            at = 0;
            variables = letters;
            return readSentence(0);
        }

        private char signHere() {
            return at < text.length() ? text.charAt(at) : (char) 0;
        }

        private boolean takes(char sign) {
            if (signHere() != sign) {
                return false;
            }
            at++;
            return true;
        }

        private int readSentence(int depth) {
            int table = readImplication(depth);
            for (int n = 0; n < MOST_SIGNS && takes('='); n++) {
                table = ~(table ^ readImplication(depth));
            }
            return table;
        }

        /** Only true SUMS ahead of a false last one make a chain of ">" false. */
        private int readImplication(int depth) {
            int ahead = -1;
            int last = readSum(depth);
            for (int n = 0; n < MOST_SIGNS && takes('>'); n++) {
                ahead &= last;
                last = readSum(depth);
            }
            return ~ahead | last;
        }

        private int readSum(int depth) {
            int table = readProduct(depth);
            for (int n = 0; n < MOST_SIGNS && takes('+'); n++) {
                table |= readProduct(depth);
            }
            return table;
        }

        private int readProduct(int depth) {
            int table = readFactor(depth);
            for (int n = 0; n < MOST_SIGNS && takes('*'); n++) {
                table &= readFactor(depth);
            }
            return table;
        }

        private int readFactor(int depth) {
            int turn = 0;
            for (int n = 0; n < MOST_SIGNS && takes('!'); n++) {
                turn = ~turn;
            }
            if (takes('(')) {
                int inner = depth < MOST_OPEN ? readSentence(depth + 1) : 0;
                takes(')');
                return inner ^ turn;
            }
            int variable = signHere() - 'a' + 1;
            at++;
            return column(variable) ^ turn;
        }

        private int column(int variable) {
            int later = setOf(variable) == 0 ? 0 : variables & -setOf(variable) & ~setOf(variable);
            int behind = Integer.bitCount(later);
            return behind < COLUMNS.length ? COLUMNS[behind] : 0;
        }
    }

    /** The one text that all answers are written in, so that a call makes no more than its answer. */
    private static final class Words {
        final StringBuilder text = new StringBuilder();

        void putNumber(int number) {
            putBlank();
            text.append(number);
        }

        void putMark(char mark) {
            putBlank();
            text.append(mark);
        }

        private void putBlank() {
            if (text.length() > 0) {
                text.append(' ');
            }
        }

        void putLiterals(int yes, int no) {
            for (int variable = 1; variable <= MOST_VARIABLES; variable++) {
                int bit = setOf(variable);
                if ((yes & bit) != 0) {
                    putNumber(variable);
                }
                if ((no & bit) != 0) {
                    putNumber(-variable);
                }
            }
        }
    }
}
