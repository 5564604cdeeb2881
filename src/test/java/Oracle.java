import java.util.ArrayList;
import java.util.HashMap;
import java.util.HashSet;
import java.util.List;
import java.util.Map;
import java.util.NoSuchElementException;
import java.util.Set;

/**
 * The document's answers, found in the plainest way: by going through all rows of small numbers for the values. It is
 * right for few values and for atoms with numbers from -K to K alone, and it shares no thought with the program.
 */
final class Oracle {
    static final int K = 1;

    private record Term(char kind, int function, int first, int second, int told) { }

    private record Atom(boolean equal, int first, int second, int most) { }

    private record Rule(char kind, int function) { }

    private record Frame(int terms, int atoms, int clauses, int rules) { }

    private final List<Term> terms = new ArrayList<>();
    private final List<Atom> atoms = new ArrayList<>();
    private final List<int[]> clauses = new ArrayList<>();
    private final List<Rule> rules = new ArrayList<>();
    private final List<Frame> frames = new ArrayList<>();

    private boolean known;
    /** Which atoms are true, for each row that keeps the rules. */
    private final Set<Integer> atomsTrue = new HashSet<>();
    private int[] model;
    private int[][] greatest;
    private int[] row;

    private Term term(int number) {
        if (number < 0 || number >= terms.size()) throw new NoSuchElementException();
        return terms.get(number);
    }

    private boolean isArrayKind(char kind) {
        return kind == 'a' || kind == 'w';
    }

    private void needValue(int number) {
        if (isArrayKind(term(number).kind())) throw new NoSuchElementException();
    }

    private void needArray(int number) {
        if (!isArrayKind(term(number).kind())) throw new NoSuchElementException();
    }

    private int make(Term made) {
        boolean constant = made.kind() == 'c' || made.kind() == 'a';
        if (!constant && terms.contains(made)) return terms.indexOf(made);
        if (terms.size() == 14) throw new IllegalStateException();
        terms.add(made);
        known = false;
        return terms.size() - 1;
    }

    int constant() {
        return make(new Term('c', -1, -1, -1, -1));
    }

    int array() {
        return make(new Term('a', -1, -1, -1, -1));
    }

    int apply(int function, int first, int second) {
        if (function < 0 || function > 3) throw new IllegalArgumentException();
        if (function < 2 && second != -1) throw new IllegalArgumentException();
        needValue(first);
        if (function >= 2) needValue(second);
        return make(new Term('f', function, first, second, -1));
    }

    int read(int array, int index) {
        needArray(array);
        needValue(index);
        return make(new Term('r', -1, array, index, -1));
    }

    int write(int array, int index, int value) {
        needArray(array);
        needValue(index);
        needValue(value);
        return make(new Term('w', -1, array, index, value));
    }

    int terms() {
        return terms.size();
    }

    int kindOf(int number) {
        return term(number).kind();
    }

    private int tell(Atom atom) {
        if (atoms.contains(atom)) return atoms.indexOf(atom);
        if (atoms.size() == 24) throw new IllegalStateException();
        atoms.add(atom);
        known = false;
        return atoms.size() - 1;
    }

    int equal(int first, int second) {
        needValue(first);
        needValue(second);
        return tell(new Atom(true, first, second, 0));
    }

    int atMost(int first, int second, int most) {
        needValue(first);
        needValue(second);
        if (most < -20 || most > 20) throw new IllegalArgumentException();
        return tell(new Atom(false, first, second, most));
    }

    int atoms() {
        return atoms.size();
    }

    private void needLiteral(int literal) {
        if (literal < 0 || literal / 2 >= atoms.size()) throw new NoSuchElementException();
    }

    int clause(int first, int second, int third) {
        needLiteral(first);
        if (second != -1) needLiteral(second);
        if (third != -1) needLiteral(third);
        if (clauses.size() == 14) throw new IllegalStateException();
        clauses.add(new int[] {first, second, third});
        known = false;
        return clauses.size() - 1;
    }

    int clauses() {
        return clauses.size();
    }

    int rule(char kind, int function) {
        String functions = kind == 'c' ? "23" : kind == 'i' || kind == 's' || kind == 'm' ? "01" : "";
        if (function < 0 || function > 9 || functions.indexOf('0' + function) < 0) throw new IllegalArgumentException();
        if (rules.size() == 4) throw new IllegalStateException();
        rules.add(new Rule(kind, function));
        known = false;
        return rules.size();
    }

    int push() {
        if (frames.size() == 6) throw new IllegalStateException();
        frames.add(new Frame(terms.size(), atoms.size(), clauses.size(), rules.size()));
        return frames.size();
    }

    int pop() {
        if (frames.isEmpty()) throw new IllegalStateException();
        Frame frame = frames.remove(frames.size() - 1);
        terms.subList(frame.terms(), terms.size()).clear();
        atoms.subList(frame.atoms(), atoms.size()).clear();
        clauses.subList(frame.clauses(), clauses.size()).clear();
        rules.subList(frame.rules(), rules.size()).clear();
        known = false;
        return clauses.size();
    }

    // ---- what is true in a row of numbers

    /** What an array has at an index if constant arrays have what is in the map, or null. */
    private Integer at(int array, int index, Map<List<Integer>, Integer> told) {
        Term t = terms.get(array);
        if (t.kind() == 'a') return told.get(List.of(array, index));
        if (row[t.second()] == index) return row[t.told()];
        return at(t.first(), index, told);
    }

    private int originAt(int array, int index) {
        Term t = terms.get(array);
        if (t.kind() == 'a') return array;
        return row[t.second()] == index ? -1 : originAt(t.first(), index);
    }

    /** Whether functions and arrays can be found for the numbers of the row. */
    private boolean comesOfFunctions() {
        Map<List<Integer>, Integer> functions = new HashMap<>();
        Map<List<Integer>, Integer> arrays = new HashMap<>();
        for (int n = 0; n < terms.size(); n++) {
            Term t = terms.get(n);
            if (t.kind() == 'f') {
                List<Integer> place = List.of(t.function(), row[t.first()], t.second() < 0 ? -1 : row[t.second()]);
                Integer before = functions.put(place, row[n]);
                if (before != null && before != row[n]) return false;
            }
            if (t.kind() == 'r') {
                int origin = originAt(t.first(), row[t.second()]);
                if (origin >= 0) {
                    Integer before = arrays.put(List.of(origin, row[t.second()]), row[n]);
                    if (before != null && before != row[n]) return false;
                }
            }
        }
        for (int n = 0; n < terms.size(); n++) {
            Term t = terms.get(n);
            if (t.kind() == 'r' && at(t.first(), row[t.second()], arrays) != row[n]) return false;
        }
        return true;
    }

    private boolean keepsRules() {
        for (Rule rule : rules) {
            for (int n = 0; n < terms.size(); n++) {
                Term t = terms.get(n);
                if (t.kind() != 'f' || t.function() != rule.function()) continue;
                if (rule.kind() == 's') {
                    Term u = terms.get(t.first());
                    if (u.kind() == 'f' && u.function() == rule.function() && row[n] != row[u.first()]) return false;
                    continue;
                }
                for (int m = 0; m < terms.size(); m++) {
                    Term u = terms.get(m);
                    if (u.kind() != 'f' || u.function() != rule.function()) continue;
                    boolean same = row[n] == row[m];
                    if (rule.kind() == 'i' && same && row[t.first()] != row[u.first()]) return false;
                    if (rule.kind() == 'm' && row[t.first()] < row[u.first()] && row[n] > row[m]) return false;
                    if (rule.kind() == 'c' && row[t.first()] == row[u.second()]
                            && row[t.second()] == row[u.first()] && !same) return false;
                }
            }
        }
        return true;
    }

    private boolean isTrueIn(int atomsTrue, int literal) {
        return (atomsTrue >> literal / 2 & 1) != literal % 2;
    }

    private boolean keepsClauses(int atomsTrue, int set) {
        for (int n = 0; n < clauses.size(); n++) {
            if ((set >> n & 1) == 0) continue;
            boolean kept = false;
            for (int literal : clauses.get(n)) kept |= literal >= 0 && isTrueIn(atomsTrue, literal);
            if (!kept) return false;
        }
        return true;
    }

    private int atomsOfRow() {
        int set = 0;
        for (int n = 0; n < atoms.size(); n++) {
            Atom a = atoms.get(n);
            int difference = row[a.first()] - row[a.second()];
            if (a.equal() ? difference == 0 : difference <= a.most()) set |= 1 << n;
        }
        return set;
    }

    private List<Integer> values() {
        List<Integer> values = new ArrayList<>();
        for (int n = 0; n < terms.size(); n++) if (!isArrayKind(terms.get(n).kind())) values.add(n);
        return values;
    }

    private int farthest(int values) {
        return Math.max(0, values - 1) * K + 1;
    }

    /** Goes through all rows that can matter, those with the least numbers for the first values first. */
    private void know() {
        if (known) return;
        known = true;
        atomsTrue.clear();
        model = null;
        greatest = new int[terms.size()][terms.size()];
        for (int[] line : greatest) java.util.Arrays.fill(line, Integer.MIN_VALUE);
        row = new int[terms.size()];
        List<Integer> values = values();
        int n = values.size();
        int top = farthest(n) + Math.max(0, n - 2) * (K + 1);
        int all = (1 << clauses.size()) - 1;
        while (true) {
            if (comesOfFunctions() && keepsRules()) {
                int set = atomsOfRow();
                atomsTrue.add(set);
                if (keepsClauses(set, all)) {
                    if (model == null) model = row.clone();
                    for (int x : values) {
                        for (int y : values) greatest[x][y] = Math.max(greatest[x][y], row[x] - row[y]);
                    }
                }
            }
            int at = n - 1;
            while (at >= 0 && row[values.get(at)] == top) {
                row[values.get(at)] = 0;
                at--;
            }
            if (at < 0) return;
            row[values.get(at)]++;
        }
    }

    // ---- the answers

    private boolean can(int set, int literal) {
        know();
        for (int t : atomsTrue) {
            if (keepsClauses(t, set) && (literal < 0 || !isTrueIn(t, literal))) return true;
        }
        return false;
    }

    private int thin(int literal) {
        int set = (1 << clauses.size()) - 1;
        for (int n = 0; n < clauses.size(); n++) {
            if (!can(set & ~(1 << n), literal)) set &= ~(1 << n);
        }
        return set;
    }

    boolean check() {
        return can((1 << clauses.size()) - 1, -1);
    }

    private int nth(int set, int index) {
        for (int n = 0; n < 14; n++) {
            if ((set >> n & 1) == 0) continue;
            if (index == 0) return n;
            index--;
        }
        throw new IndexOutOfBoundsException();
    }

    int core() {
        if (check()) throw new IllegalStateException();
        return Integer.bitCount(thin(-1));
    }

    int coreAt(int index) {
        if (check()) throw new IllegalStateException();
        if (index < 0) throw new IndexOutOfBoundsException();
        return nth(thin(-1), index);
    }

    boolean follows(int literal) {
        needLiteral(literal);
        return !can((1 << clauses.size()) - 1, literal);
    }

    int reasons(int literal) {
        if (!follows(literal)) throw new IllegalStateException();
        return Integer.bitCount(thin(literal));
    }

    int reasonAt(int literal, int index) {
        if (!follows(literal)) throw new IllegalStateException();
        if (index < 0) throw new IndexOutOfBoundsException();
        return nth(thin(literal), index);
    }

    private void needModel() {
        know();
        if (model == null) throw new IllegalStateException();
    }

    int bound(int first, int second) {
        needValue(first);
        needValue(second);
        needModel();
        if (greatest[first][second] >= farthest(values().size())) throw new UnsupportedOperationException();
        return greatest[first][second];
    }

    int classOf(int number) {
        needValue(number);
        needModel();
        for (int other : values()) {
            if (greatest[other][number] == 0 && greatest[number][other] == 0) return other;
        }
        throw new AssertionError();
    }

    int classes() {
        needModel();
        Set<Integer> leaders = new HashSet<>();
        for (int n : values()) leaders.add(classOf(n));
        return leaders.size();
    }

    int valueOf(int number) {
        needValue(number);
        needModel();
        return model[number];
    }

    int functionAt(int function, int first, int second) {
        if (function < 0 || function > 3) throw new IllegalArgumentException();
        needModel();
        for (int n = 0; n < terms.size(); n++) {
            Term t = terms.get(n);
            if (t.kind() == 'f' && t.function() == function && model[t.first()] == first
                    && (function < 2 || model[t.second()] == second)) return model[n];
        }
        return 0;
    }

    int entry(int array, int at) {
        needArray(array);
        needModel();
        row = model.clone();
        Map<List<Integer>, Integer> told = new HashMap<>();
        for (int n = 0; n < terms.size(); n++) {
            Term t = terms.get(n);
            if (t.kind() != 'r') continue;
            int origin = originAt(t.first(), row[t.second()]);
            if (origin >= 0) told.put(List.of(origin, row[t.second()]), row[n]);
        }
        Integer has = at(array, at, told);
        return has == null ? 0 : has;
    }

    boolean isTrue(int literal) {
        needLiteral(literal);
        needModel();
        row = model.clone();
        return isTrueIn(atomsOfRow(), literal);
    }

    long trueLiterals() {
        needModel();
        long count = 0;
        for (int[] clause : clauses) for (int literal : clause) if (literal >= 0 && isTrue(literal)) count++;
        return count;
    }

    float coreShare() {
        return (float) core() / (float) clauses.size();
    }

    double meanValue() {
        needModel();
        if (values().isEmpty()) throw new ArithmeticException();
        double sum = 0;
        for (int n : values()) sum += model[n];
        return sum / values().size();
    }

    boolean isSound() {
        return true;
    }
}
