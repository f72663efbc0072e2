import java.util.ArrayList;
import java.util.Arrays;
import java.util.BitSet;
import java.util.Comparator;
import java.util.List;
import java.util.NoSuchElementException;
import java.util.TreeSet;

/**
 * DOC.md once more, told as slowly and plainly as its words are, with sets of LITERALS and ASSIGNMENTS
 * tried one by one. It shares no line with the program, so that the two can be held against each other.
 */
final class Oracle {
    private static final Comparator<Integer> ORDER =
            Comparator.<Integer>comparingInt(l -> Math.abs(l)).thenComparing(l -> l < 0);

    private static final class Clause {
        int number;
        TreeSet<Integer> literals = new TreeSet<>(ORDER);
        int weight;
        int use;
        boolean isLearned;
        BitSet trueBy;
    }

    private static final class Place {
        int literal;
        int level;
        Clause reason;
    }

    private final List<Clause> clauses = new ArrayList<>();
    private final List<Place> trail = new ArrayList<>();
    private final List<List<Integer>> proof = new ArrayList<>();
    private final int[] scores = new int[13];
    private final boolean[] signs = new boolean[13];
    private String typed = "";
    private int width = 6;
    private int ever;
    private int answer;
    private int blanks;
    private int knocks;
    private int choices;
    private int learnings;
    int mostLearned;
    int forgottenBySearch;

    Oracle() {
        Arrays.fill(signs, true);
    }

    // ---- helpers

    private static void check(boolean isRight) {
        if (!isRight) {
            throw new IllegalArgumentException();
        }
    }

    private List<Clause> told() {
        List<Clause> list = new ArrayList<>();
        for (Clause c : clauses) {
            if (!c.isLearned) {
                list.add(c);
            }
        }
        return list;
    }

    private List<Clause> learned() {
        List<Clause> list = new ArrayList<>(clauses);
        list.removeAll(told());
        return list;
    }

    private Clause get(int number, boolean isTold) {
        for (Clause c : clauses) {
            if (c.number == number && !(isTold && c.isLearned)) {
                return c;
            }
        }
        throw new IndexOutOfBoundsException();
    }

    private Clause come(TreeSet<Integer> literals, int weight, boolean isLearned) {
        Clause c = new Clause();
        c.number = ever++;
        c.literals.addAll(literals);
        c.weight = weight;
        c.isLearned = isLearned;
        clauses.add(c);
        return c;
    }

    private int comeAll(List<TreeSet<Integer>> sets) {
        if (told().size() + sets.size() > 30) {
            throw new IllegalStateException();
        }
        startAnew();
        for (TreeSet<Integer> set : sets) {
            come(set, 1, false);
        }
        return sets.size();
    }

    private void startAnew() {
        trail.clear();
        answer = 0;
    }

    private void beginAgain() {
        startAnew();
        clauses.removeAll(learned());
        proof.clear();
    }

    private static boolean isAlwaysTrue(TreeSet<Integer> literals) {
        for (int l : literals) {
            if (literals.contains(-l)) {
                return true;
            }
        }
        return false;
    }

    private static String row(Iterable<Integer> numbers) {
        StringBuilder s = new StringBuilder();
        for (int n : numbers) {
            s.append(s.length() == 0 ? "" : " ").append(n);
        }
        return s.toString();
    }

    private boolean holds(int assignment, int literal) {
        boolean is = (assignment >> (width - Math.abs(literal)) & 1) == 1;
        return literal > 0 == is;
    }

    private BitSet trueBy(Clause c) {
        if (c.trueBy == null) {
            c.trueBy = new BitSet();
            for (int a = 0; a < 1 << width; a++) {
                for (int l : c.literals) {
                    if (holds(a, l)) {
                        c.trueBy.set(a);
                    }
                }
            }
        }
        return c.trueBy;
    }

    private BitSet modelsOf(List<Clause> list) {
        BitSet all = new BitSet();
        all.set(0, 1 << width);
        for (Clause c : list) {
            all.and(trueBy(c));
        }
        return all;
    }

    private BitSet allModels() {
        return modelsOf(told());
    }

    private static boolean has(int set, int variable) {
        return (set >> (variable - 1) & 1) == 1;
    }

    private boolean isSet(int set) {
        return set >= 0 && set < 1 << width;
    }

    // ---- clauses

    int wide(int width) {
        check(width >= 1 && width <= 12);
        if (!clauses.isEmpty()) {
            throw new IllegalStateException();
        }
        int before = this.width;
        this.width = width;
        beginAgain();
        return before;
    }

    int tell(int a, int b, int c, int d, int weight) {
        TreeSet<Integer> literals = new TreeSet<>(ORDER);
        for (int l : new int[] {a, b, c, d}) {
            check(l >= -width && l <= width);
            if (l != 0) {
                literals.add(l);
            }
        }
        check(weight >= 0 && weight <= 9);
        if (told().size() == 30) {
            throw new IllegalStateException();
        }
        startAnew();
        return come(literals, weight, false).number;
    }

    int drop(int clause) {
        Clause c = get(clause, true);
        clauses.remove(c);
        beginAgain();
        return told().size();
    }

    int weigh(int clause, int weight) {
        Clause c = get(clause, true);
        check(weight >= 0 && weight <= 9);
        int before = c.weight;
        c.weight = weight;
        return before;
    }

    private void subsets(List<Integer> from, int at, int many, TreeSet<Integer> now, List<TreeSet<Integer>> into) {
        if (many == 0) {
            TreeSet<Integer> copy = new TreeSet<>(ORDER);
            copy.addAll(now);
            into.add(copy);
            return;
        }
        for (int n = at; n < from.size(); n++) {
            now.add(from.get(n));
            subsets(from, n + 1, many - 1, now, into);
            now.remove(from.get(n));
        }
    }

    int atMost(int variables, int many) {
        check(isSet(variables) && many >= 0 && many <= 3);
        List<Integer> from = new ArrayList<>();
        for (int v = 1; v <= width; v++) {
            if (has(variables, v)) {
                from.add(-v);
            }
        }
        List<TreeSet<Integer>> sets = new ArrayList<>();
        subsets(from, 0, many + 1, new TreeSet<>(ORDER), sets);
        return comeAll(sets);
    }

    int say(int a, int b, int c, int d, int e, int f) {
        int[] codes = {a, b, c, d, e, f};
        for (int code : codes) {
            check(code >= -1 && code <= 20);
        }
        String text = typed;
        for (int code : codes) {
            if (code == 20) {
                text = "";
            } else if (code == 19) {
                text = text.isEmpty() ? "" : text.substring(0, text.length() - 1);
            } else if (code >= 0) {
                text += "abcdefghijkl!*+>=()".charAt(code);
            }
            if (text.length() > 40) {
                throw new IllegalStateException();
            }
        }
        typed = text;
        return text.length();
    }

    int sentence() {
        TreeSet<Integer> letters = new TreeSet<>();
        for (char sign : typed.toCharArray()) {
            if (sign >= 'a' && sign <= 'l') {
                letters.add(sign - 'a' + 1);
            }
        }
        if (fault() != -1 || letters.last() > width || letters.size() > 4) {
            return -1;
        }
        List<Integer> variables = new ArrayList<>(letters);
        List<TreeSet<Integer>> sets = new ArrayList<>();
        wrongWays(variables, new ArrayList<>(), sets);
        return comeAll(sets);
    }

    /** chosen has the true LITERALS of the first VARIABLES. */
    private void wrongWays(List<Integer> variables, List<Integer> chosen, List<TreeSet<Integer>> into) {
        if (chosen.size() == variables.size()) {
            if (!new Reader(typed, chosen).value()) {
                TreeSet<Integer> set = new TreeSet<>(ORDER);
                for (int l : chosen) {
                    set.add(-l);
                }
                into.add(set);
            }
            return;
        }
        int v = variables.get(chosen.size());
        for (int l : new int[] {-v, v}) {
            chosen.add(l);
            wrongWays(variables, chosen, into);
            chosen.remove(chosen.size() - 1);
        }
    }

    /** Reads a SENTENCE by the rules of the document, one method a rule; throws where none fits. */
    private static final class Reader {
        private final String text;
        private final List<Integer> trueOnes;
        private int at;
        private int open;

        Reader(String text, List<Integer> trueOnes) {
            this.text = text;
            this.trueOnes = trueOnes;
        }

        boolean value() {
            boolean is = sentence();
            if (at != text.length()) {
                throw new NoSuchElementException();
            }
            return is;
        }

        boolean isSentence() {
            try {
                value();
                return true;
            } catch (NoSuchElementException e) {
                return false;
            }
        }

        private boolean next(char sign) {
            if (at < text.length() && text.charAt(at) == sign) {
                at++;
                return true;
            }
            return false;
        }

        private boolean sentence() {
            boolean is = implication();
            while (next('=')) {
                is = is == implication();
            }
            return is;
        }

        private boolean implication() {
            boolean first = sum();
            if (!next('>')) {
                return first;
            }
            boolean second = implication();
            return second || !first;
        }

        private boolean sum() {
            boolean is = product();
            while (next('+')) {
                is = product() | is;
            }
            return is;
        }

        private boolean product() {
            boolean is = factor();
            while (next('*')) {
                is = factor() & is;
            }
            return is;
        }

        private boolean factor() {
            if (next('!')) {
                return !factor();
            }
            if (next('(')) {
                if (++open > 4) {
                    throw new NoSuchElementException();
                }
                boolean is = sentence();
                if (!next(')')) {
                    throw new NoSuchElementException();
                }
                open--;
                return is;
            }
            if (at < text.length() && text.charAt(at) >= 'a' && text.charAt(at) <= 'l') {
                at++;
                return trueOnes.contains(text.charAt(at - 1) - 'a' + 1);
            }
            throw new NoSuchElementException();
        }
    }

    int clear() {
        int before = told().size();
        clauses.clear();
        beginAgain();
        return before;
    }

    // ---- the search

    int score(int variable, int score) {
        check(variable >= 1 && variable <= width && score >= 0 && score <= 99);
        int before = scores[variable];
        scores[variable] = score;
        return before;
    }

    boolean sign(int variable, boolean is) {
        check(variable >= 1 && variable <= width);
        boolean before = signs[variable];
        signs[variable] = is;
        return before;
    }

    private Place of(int literal) {
        for (Place p : trail) {
            if (p.literal == literal) {
                return p;
            }
        }
        return null;
    }

    private int state(Clause c) {
        int left = 0;
        for (int l : c.literals) {
            if (of(l) != null) {
                return 0;
            }
            if (of(-l) == null) {
                left++;
            }
        }
        return left == 0 ? 1 : left == 1 ? 2 : 3;
    }

    private int level() {
        int level = 0;
        for (Place p : trail) {
            if (p.reason == null) {
                level++;
            }
        }
        return level;
    }

    private void put(int literal, Clause reason) {
        Place p = new Place();
        p.literal = literal;
        p.reason = reason;
        trail.add(p);
        p.level = level();
    }

    int step() {
        if (answer != 0) {
            return 0;
        }
        for (Clause c : clauses) {
            if (state(c) == 1) {
                return conflict(c);
            }
        }
        for (Clause c : clauses) {
            if (state(c) == 2) {
                for (int l : c.literals) {
                    if (of(-l) == null) {
                        put(l, c);
                        return 1;
                    }
                }
            }
        }
        int best = 0;
        for (int v = 1; v <= width; v++) {
            if (of(v) == null && of(-v) == null && (best == 0 || scores[v] > scores[best])) {
                best = v;
            }
        }
        if (best == 0) {
            answer = 1;
            return 4;
        }
        choices++;
        put(signs[best] ? best : -best, null);
        return 2;
    }

    private int conflict(Clause conflict) {
        int level = level();
        List<Integer> joined = new ArrayList<>();
        TreeSet<Integer> result = new TreeSet<>(ORDER);
        result.addAll(conflict.literals);
        conflict.use++;
        learnings++;
        while (true) {
            List<Integer> here = new ArrayList<>();
            for (int l : result) {
                if (of(-l).level == level) {
                    here.add(l);
                }
            }
            if (level == 0 ? result.isEmpty() : here.size() <= 1) {
                break;
            }
            int last = here.get(0);
            for (int l : here) {
                if (trail.indexOf(of(-l)) > trail.indexOf(of(-last))) {
                    last = l;
                }
            }
            Clause reason = of(-last).reason;
            reason.use++;
            joined.add(reason.number);
            result.addAll(reason.literals);
            result.remove(last);
            result.remove(-last);
        }
        List<Integer> line = new ArrayList<>();
        line.add(level == 0 ? -1 : ever);
        line.add(conflict.number);
        line.addAll(joined);
        proof.add(line);
        if (level == 0) {
            answer = 2;
            return 5;
        }
        int jump = 0;
        for (int l : result) {
            if (of(-l).level < level) {
                jump = Math.max(jump, of(-l).level);
            }
        }
        int most = jump;
        trail.removeIf(p -> p.level > most);
        if (learned().size() == 40) {
            forgottenBySearch++;
            forgetOne();
        }
        come(result, 0, true);
        mostLearned = Math.max(mostLearned, learned().size());
        return 3;
    }

    private boolean isReason(Clause c) {
        for (Place p : trail) {
            if (p.reason == c) {
                return true;
            }
        }
        return false;
    }

    private boolean forgetOne() {
        Clause least = null;
        for (Clause c : learned()) {
            if (!isReason(c) && (least == null || c.use < least.use)) {
                least = c;
            }
        }
        return clauses.remove(least);
    }

    int run(int most) {
        check(most >= 1 && most <= 60);
        int done = 0;
        while (done < most && answer == 0) {
            step();
            done++;
        }
        return done;
    }

    int anew() {
        int before = trail.size();
        startAnew();
        return before;
    }

    int forget(int most) {
        check(most >= 0 && most <= 40);
        int gone = 0;
        while (learned().size() > most && forgetOne()) {
            gone++;
        }
        return gone;
    }

    int blank() {
        blanks++;
        return -9;
    }

    int knock() {
        return ++knocks;
    }

    // ---- what is asked of clauses and the search

    String clause(int clause) {
        Clause c = get(clause, false);
        return c.literals.isEmpty() ? "-" : row(c.literals);
    }

    private boolean isIn(Clause one, Clause other) {
        if (one == other || isAlwaysTrue(one.literals) || !other.literals.containsAll(one.literals)) {
            return false;
        }
        return one.literals.size() < other.literals.size() || one.number < other.number;
    }

    int ofClause(int clause, int what) {
        Clause c = get(clause, false);
        check(what >= 0 && what <= 7);
        if (what == 7) {
            for (Clause one : told()) {
                if (isIn(one, c)) {
                    return one.number;
                }
            }
            return -1;
        }
        int[] all = {c.literals.size(), c.isLearned ? 1 : 0, c.weight, c.isLearned ? c.use : 0,
            isAlwaysTrue(c.literals) ? 1 : 0, state(c), isReason(c) ? 1 : 0};
        return all[what];
    }

    int trail(int nth, int what) {
        if (nth < 0 || nth >= trail.size()) {
            throw new IndexOutOfBoundsException();
        }
        check(what >= 0 && what <= 2);
        Place p = trail.get(nth);
        return what == 0 ? p.literal : what == 1 ? p.level : p.reason == null ? -1 : p.reason.number;
    }

    String trailed() {
        List<String> list = new ArrayList<>();
        for (Place p : trail) {
            list.add((p.reason == null ? "| " : "") + p.literal);
        }
        return String.join(" ", list);
    }

    String line(int nth) {
        check(nth >= 0);
        return nth < proof.size() ? row(proof.get(nth)) : "!";
    }

    int house(int what) {
        check(what >= 0 && what <= 15);
        int weights = 0;
        for (Clause c : told()) {
            weights += c.weight;
        }
        int free = 0;
        for (int v = 1; v <= width && what == 15; v++) {
            free += partOf(v) == 0 ? 1 : 0;
        }
        int parts = what == 11 ? partSets().size() : 0;
        int[] all = {width, told().size(), learned().size(), ever, answer, level(), trail.size(), proof.size(),
            blanks, knocks, weights, parts, typed.length(), choices, learnings, free};
        return all[what];
    }

    String typed() {
        return typed;
    }

    int fault() {
        if (new Reader(typed, List.of()).isSentence()) {
            return -1;
        }
        for (int length = typed.length(); length > 0; length--) {
            if (isBeginning(typed.substring(0, length))) {
                return length;
            }
        }
        return 0;
    }

    /** Whether some of the few ways to end a text makes it a SENTENCE. */
    private static boolean isBeginning(String text) {
        for (String end : new String[] {"", ")", "))", ")))", "))))"}) {
            if (new Reader(text + end, List.of()).isSentence()
                    || new Reader(text + "a" + end, List.of()).isSentence()) {
                return true;
            }
        }
        return false;
    }

    // ---- models

    int models() {
        return allModels().cardinality();
    }

    String model(int nth) {
        check(nth >= 0);
        int n = 0;
        BitSet all = allModels();
        for (int a = 0; a < 1 << width; a++) {
            if (all.get(a) && n++ == nth) {
                List<Integer> list = new ArrayList<>();
                for (int v = 1; v <= width; v++) {
                    list.add(holds(a, v) ? v : -v);
                }
                return row(list);
            }
        }
        return "!";
    }

    String fixed() {
        BitSet all = allModels();
        if (all.isEmpty()) {
            return "!";
        }
        List<Integer> list = new ArrayList<>();
        for (int v = 1; v <= width; v++) {
            for (int l : new int[] {v, -v}) {
                boolean isEach = true;
                for (int a = 0; a < 1 << width; a++) {
                    isEach &= !all.get(a) || holds(a, l);
                }
                if (isEach) {
                    list.add(l);
                }
            }
        }
        return row(list);
    }

    /** The set of the VARIABLES that are of one PART with v; 0 if v is of none. */
    private int partOf(int v) {
        TreeSet<Integer> set = new TreeSet<>();
        int before = -1;
        while (set.size() > before) {
            before = set.size();
            for (Clause c : told()) {
                boolean isOne = false;
                for (int l : c.literals) {
                    isOne |= Math.abs(l) == v || set.contains(Math.abs(l));
                }
                if (isOne && !isAlwaysTrue(c.literals)) {
                    for (int l : c.literals) {
                        set.add(Math.abs(l));
                    }
                }
            }
        }
        int sum = 0;
        for (int one : set) {
            sum += 1 << (one - 1);
        }
        return set.contains(v) ? sum : 0;
    }

    private List<Integer> partSets() {
        List<Integer> sets = new ArrayList<>();
        for (int v = 1; v <= width; v++) {
            int set = partOf(v);
            if (set != 0 && !sets.contains(set)) {
                sets.add(set);
            }
        }
        return sets;
    }

    int part(int part, boolean isModels) {
        List<Integer> sets = partSets();
        if (part < 0 || part >= sets.size()) {
            throw new IndexOutOfBoundsException();
        }
        int set = sets.get(part);
        if (!isModels) {
            return set;
        }
        List<Clause> own = new ArrayList<>();
        for (Clause c : told()) {
            boolean isOwn = !c.literals.isEmpty();
            for (int l : c.literals) {
                isOwn &= has(set, Math.abs(l));
            }
            if (isOwn) {
                own.add(c);
            }
        }
        int count = 0;
        BitSet all = modelsOf(own);
        for (int a = 0; a < 1 << width; a++) {
            boolean isPlain = true;
            for (int v = 1; v <= width; v++) {
                isPlain &= has(set, v) || !holds(a, v);
            }
            count += isPlain && all.get(a) ? 1 : 0;
        }
        return count;
    }

    int ofVariable(int variable, int what) {
        check(variable >= 1 && variable <= width && what >= 0 && what <= 3);
        int yes = 0;
        int no = 0;
        int plainYes = 0;
        int plainNo = 0;
        int pairs = 0;
        for (Clause c : told()) {
            boolean isPlain = !isAlwaysTrue(c.literals);
            if (c.literals.contains(variable)) {
                yes++;
                plainYes += isPlain ? 1 : 0;
                for (Clause d : told()) {
                    if (d.literals.contains(-variable) && isPlain && !isAlwaysTrue(d.literals)) {
                        TreeSet<Integer> joined = new TreeSet<>(ORDER);
                        joined.addAll(c.literals);
                        joined.remove(variable);
                        TreeSet<Integer> rest = new TreeSet<>(ORDER);
                        rest.addAll(d.literals);
                        rest.remove(-variable);
                        joined.addAll(rest);
                        pairs += isAlwaysTrue(joined) ? 0 : 1;
                    }
                }
            }
            if (c.literals.contains(-variable)) {
                no++;
                plainNo += isPlain ? 1 : 0;
            }
        }
        return new int[] {yes, no, pairs, plainYes == 0 || plainNo == 0 ? 1 : 0}[what];
    }

    // ---- what is assumed, cores, weights

    private List<Integer> assumed(int yes, int no) {
        check(isSet(yes) && isSet(no) && (yes & no) == 0);
        List<Integer> list = new ArrayList<>();
        for (int v = 1; v <= width; v++) {
            if (has(yes, v)) {
                list.add(v);
            } else if (has(no, v)) {
                list.add(-v);
            }
        }
        return list;
    }

    private int countWith(Iterable<Integer> literals) {
        int count = 0;
        BitSet all = allModels();
        for (int a = all.nextSetBit(0); a >= 0; a = all.nextSetBit(a + 1)) {
            boolean isOne = true;
            for (int l : literals) {
                isOne &= holds(a, l);
            }
            count += isOne ? 1 : 0;
        }
        return count;
    }

    int assume(int yes, int no) {
        return countWith(assumed(yes, no));
    }

    String failing(int yes, int no) {
        List<Integer> list = assumed(yes, no);
        check(list.size() <= 8);
        if (models() == 0) {
            return "-";
        }
        if (countWith(list) > 0) {
            return "";
        }
        for (int size = 1; size <= list.size(); size++) {
            List<TreeSet<Integer>> sets = new ArrayList<>();
            subsets(list, 0, size, new TreeSet<>(ORDER), sets);
            for (TreeSet<Integer> set : sets) {
                if (countWith(set) == 0) {
                    return row(set);
                }
            }
        }
        throw new AssertionError();
    }

    String follows(int yes, int no) {
        List<Integer> trueOnes = new ArrayList<>(assumed(yes, no));
        List<Integer> came = new ArrayList<>();
        boolean goesOn = true;
        while (goesOn) {
            goesOn = false;
            for (Clause c : told()) {
                boolean isFalse = true;
                for (int l : c.literals) {
                    isFalse &= trueOnes.contains(-l);
                }
                if (isFalse) {
                    return "!";
                }
            }
            for (Clause c : told()) {
                List<Integer> others = new ArrayList<>();
                for (int l : c.literals) {
                    if (!trueOnes.contains(-l)) {
                        others.add(l);
                    }
                }
                if (others.size() == 1 && !trueOnes.contains(others.get(0))) {
                    trueOnes.add(others.get(0));
                    came.add(others.get(0));
                    goesOn = true;
                    break;
                }
            }
        }
        return row(came);
    }

    private List<Clause> coreClauses() {
        List<Clause> kept = told();
        for (Clause c : told()) {
            List<Clause> others = new ArrayList<>(kept);
            others.remove(c);
            if (modelsOf(others).isEmpty()) {
                kept = others;
            }
        }
        return kept;
    }

    String core() {
        if (models() > 0) {
            return "!";
        }
        List<Integer> numbers = new ArrayList<>();
        for (Clause c : coreClauses()) {
            numbers.add(c.number);
        }
        return row(numbers);
    }

    int leastCore() {
        for (int size = 1; size <= 5 && models() == 0; size++) {
            if (hasCore(told(), 0, size, modelsOf(List.of()))) {
                return size;
            }
        }
        return -1;
    }

    private boolean hasCore(List<Clause> list, int from, int size, BitSet left) {
        if (size == 0) {
            return left.isEmpty();
        }
        for (int n = from; n < list.size(); n++) {
            BitSet less = (BitSet) left.clone();
            less.and(trueBy(list.get(n)));
            if (hasCore(list, n + 1, size - 1, less)) {
                return true;
            }
        }
        return false;
    }

    int best(boolean isModel) {
        int best = -1;
        int first = 0;
        for (int a = 0; a < 1 << width; a++) {
            int sum = 0;
            for (Clause c : told()) {
                sum += trueBy(c).get(a) ? c.weight : 0;
            }
            if (sum > best) {
                best = sum;
                first = a;
            }
        }
        return isModel ? first : best;
    }

    boolean isSound() {
        BitSet all = allModels();
        for (Clause c : clauses) {
            if (answer == 1 && state(c) != 0) {
                return false;
            }
            BitSet less = (BitSet) all.clone();
            less.and(trueBy(c));
            if (c.isLearned && !less.equals(all)) {
                return false;
            }
        }
        if (answer == 2 && (!all.isEmpty() || proof.get(proof.size() - 1).get(0) != -1)) {
            return false;
        }
        return isTrailSound() && arePartsSound() && isCoreSound();
    }

    private boolean isTrailSound() {
        for (int n = 0; n < trail.size(); n++) {
            Place p = trail.get(n);
            if (p.reason == null) {
                continue;
            }
            for (int l : p.reason.literals) {
                Place other = of(-l);
                if (l != p.literal && (other == null || trail.indexOf(other) >= n)) {
                    return false;
                }
            }
            if (!p.reason.literals.contains(p.literal)) {
                return false;
            }
        }
        return true;
    }

    private boolean arePartsSound() {
        long product = 1;
        for (int n = 0; n < partSets().size(); n++) {
            product *= part(n, true);
        }
        for (int v = 1; v <= width; v++) {
            product *= partOf(v) == 0 ? 2 : 1;
        }
        boolean hasEmpty = false;
        for (Clause c : told()) {
            hasEmpty |= c.literals.isEmpty();
        }
        return hasEmpty || product == models();
    }

    private boolean isCoreSound() {
        if (models() > 0) {
            return true;
        }
        List<Clause> core = coreClauses();
        for (Clause c : core) {
            List<Clause> others = new ArrayList<>(core);
            others.remove(c);
            if (modelsOf(others).isEmpty()) {
                return false;
            }
        }
        return modelsOf(core).isEmpty();
    }

    long digest() {
        List<Long> numbers = new ArrayList<>();
        for (int what = 0; what <= 15; what++) {
            numbers.add((long) house(what));
        }
        for (Clause c : clauses) {
            numbers.add((long) c.number);
            for (int what = 0; what <= 7; what++) {
                numbers.add((long) ofClause(c.number, what));
            }
            numbers.add((long) clause(c.number).length());
        }
        for (int n = 0; n < trail.size(); n++) {
            for (int what = 0; what <= 2; what++) {
                numbers.add((long) trail(n, what));
            }
        }
        for (int n = proof.size() - 1; n >= 0 && n >= proof.size() - 8; n--) {
            numbers.add((long) line(n).length());
        }
        numbers.add((long) fault());
        numbers.add((long) models());
        numbers.add((long) model(0).length());
        numbers.add((long) fixed().length());
        for (int n = 0; n < partSets().size(); n++) {
            numbers.add((long) part(n, true));
            numbers.add((long) part(n, false));
        }
        for (int v = 1; v <= width; v++) {
            for (int what = 0; what <= 3; what++) {
                numbers.add((long) ofVariable(v, what));
            }
        }
        numbers.add((long) assume(1, 0));
        numbers.add((long) failing(1, 0).length());
        numbers.add((long) follows(1, 0).length());
        numbers.add((long) core().length());
        numbers.add((long) best(false));
        numbers.add((long) best(true));
        numbers.add(isSound() ? 1L : 0L);
        long d = 7057;
        for (long v : numbers) {
            d = d * 31 + v;
        }
        return d;
    }
}
