import java.util.ArrayList;
import java.util.Arrays;
import java.util.List;

/**
 * Runs with as many terms, atoms, clauses and rules as there can be, too large for the oracle: the answers are checked
 * against one another, and explanations by objects that are told fewer clauses.
 */
public final class FullSizeTest {
    private static final int CONSTANT = 0;
    private static final int ARRAY = 1;
    private static final int APPLY = 2;
    private static final int READ = 3;
    private static final int WRITE = 4;
    private static final int[] MADE_OF_OTHERS = {APPLY, READ, READ, WRITE};
    private static final int[] GREATEST = {0, 1, 2, 20};
    private static final int ALL = (1 << 14) - 1;

    /** What each is made of: the sort, the parts that are terms, and the function of a value of one. */
    private final List<int[]> terms = new ArrayList<>();
    private final List<int[]> atoms = new ArrayList<>();
    private final List<int[]> clauses = new ArrayList<>();
    private final List<int[]> rules = new ArrayList<>();
    private long state;

    private FullSizeTest(long seed) {
        state = seed * 2862933555777941757L + 3037000493L;
        boolean arrays = next(2) == 0;
        for (int n = next(6); n >= 0; n--) terms.add(new int[] {CONSTANT, -1, -1, -1, -1});
        if (arrays) terms.add(new int[] {ARRAY, -1, -1, -1, -1});
        for (int n = 0; n < 60; n++) {
            planTerm(next(arrays ? 6 : 3) == 0 ? CONSTANT : MADE_OF_OTHERS[next(arrays ? 4 : 1)]);
        }
        int most = GREATEST[next(4)];
        int equals = next(11);
        for (int n = 0; n < 60; n++) planAtom(next(10) < equals, next(2 * most + 1) - most);
        int length = 1 + next(3);
        for (int n = 0; n < 14 && !atoms.isEmpty(); n++) {
            int many = 2 * atoms.size();
            clauses.add(new int[] {next(many), length > 1 ? next(many) : -1, length > 2 ? next(many) : -1});
        }
        for (int n = next(5); n > 0; n--) rules.add(new int[] {"ismc".charAt(next(4)), next(2)});
    }

    private int next(int bound) {
        state = state * 6364136223846793005L + 1442695040888963407L;
        return (int) ((state >>> 33) % bound);
    }

    private boolean isArray(int term) {
        return terms.get(term)[0] == ARRAY || terms.get(term)[0] == WRITE;
    }

    /** Plans a term, if its parts are what they have to be, and if it is a new one. */
    private void planTerm(int sort) {
        int first = next(terms.size());
        int second = next(terms.size());
        int told = next(terms.size());
        int function = next(4);
        if (terms.size() == 14) return;
        int[] t = {sort, first, second, told, function};
        if (sort == CONSTANT) Arrays.fill(t, 1, 5, -1);
        if (sort == APPLY && function < 2) t[2] = -1;
        if (sort != WRITE) t[3] = -1;
        if (sort != APPLY) t[4] = -1;
        for (int n = 1; n < 4; n++) {
            boolean arrayIsDue = n == 1 && sort != APPLY;
            if (t[n] >= 0 && isArray(t[n]) != arrayIsDue) return;
        }
        if (sort == CONSTANT || isNew(terms, t)) terms.add(t);
    }

    private void planAtom(boolean equal, int most) {
        int first = next(terms.size());
        int second = next(terms.size());
        if (atoms.size() == 24 || isArray(first) || isArray(second)) return;
        int[] a = {equal ? 1 : 0, first, second, equal ? 0 : most};
        if (isNew(atoms, a)) atoms.add(a);
    }

    private static boolean isNew(List<int[]> there, int[] made) {
        for (int[] one : there) if (Arrays.equals(one, made)) return false;
        return true;
    }

    /** An object that is told all, but of the clauses those of a set alone. */
    private Congruary told(int set) {
        Congruary x = new Congruary();
        for (int[] t : terms) {
            if (t[0] == CONSTANT) x.constant();
            else if (t[0] == ARRAY) x.array();
            else if (t[0] == APPLY) x.apply(t[4], t[1], t[2]);
            else if (t[0] == WRITE) x.write(t[1], t[2], t[3]);
            else x.read(t[1], t[2]);
        }
        for (int[] a : atoms) {
            if (a[0] == 1) x.equal(a[1], a[2]);
            else x.atMost(a[1], a[2], a[3]);
        }
        for (int[] r : rules) x.rule((char) r[0], r[1] + (r[0] == 'c' ? 2 : 0));
        for (int n = 0; n < clauses.size(); n++) {
            int[] c = clauses.get(n);
            if ((set >> n & 1) != 0) x.clause(c[0], c[1], c[2]);
        }
        return x;
    }

    private void look(long seed) {
        Congruary x = told(ALL);
        String run = "run " + seed + ": ";
        Due.is(run + "terms", x.terms(), terms.size());
        Due.is(run + "atoms", x.atoms(), atoms.size());
        Due.is(run + "isSound", x.isSound(), true);
        boolean can = x.check();
        if (can) lookAtModel(run, x);
        else lookAtCore(run, x);
        lookAtReasons(run, can);
    }

    private void lookAtReasons(String run, boolean can) {
        Congruary x = told(ALL);
        for (int literal = next(5); literal < 2 * atoms.size(); literal += 2 + next(7)) {
            boolean follows = x.follows(literal);
            Due.is(run + "its contrary follows too", follows && x.follows(literal ^ 1), follows && !can);
            if (!follows) continue;
            int set = 0;
            for (int n = x.reasons(literal) - 1; n >= 0; n--) set |= 1 << x.reasonAt(literal, n);
            Due.is(run + "the reasons are enough", told(set).follows(literal), true);
            for (int n = 0; n < 14; n++) {
                if ((set >> n & 1) == 0) continue;
                Due.is(run + "each reason is needed", told(set & ~(1 << n)).follows(literal), false);
            }
        }
    }

    private void lookAtCore(String run, Congruary x) {
        int set = 0;
        int core = x.core();
        for (int n = 0; n < core; n++) set |= 1 << x.coreAt(n);
        Due.is(run + "the core is enough", told(set).check(), false);
        for (int n = 0; n < 14; n++) {
            if ((set >> n & 1) == 0) continue;
            Due.is(run + "each clause of the core is needed", told(set & ~(1 << n)).check(), true);
        }
        Due.is(run + "coreShare", x.coreShare(), core / (float) clauses.size());
    }

    private void lookAtModel(String run, Congruary x) {
        int classes = 0;
        for (int term = 0; term < terms.size(); term++) {
            if (isArray(term)) continue;
            int leader = x.classOf(term);
            if (leader == term) classes++;
            Due.is(run + "a class has one number", x.valueOf(leader), x.valueOf(term));
            Due.is(run + "a class has one term that leads", x.classOf(leader), leader);
            if (leader != term) Due.is(run + "bound in a class", x.bound(leader, term), 0);
        }
        Due.is(run + "classes", x.classes(), classes);
        for (int literal = 0; literal < 2 * atoms.size(); literal += 2) {
            boolean isTrue = x.isTrue(literal);
            Due.is(run + "a literal or its contrary is true", x.isTrue(literal + 1), !isTrue);
            Due.is(run + "what is not true does not follow", x.follows(literal + (isTrue ? 1 : 0)), false);
        }
        for (int n = 0; n < 10; n++) {
            int term = next(terms.size());
            int other = next(terms.size());
            if (!isArray(term) && !isArray(other)) lookAtBound(run, x, term, other);
        }
    }

    /** The bound is kept by the model, it follows, and less does not. */
    private void lookAtBound(String run, Congruary x, int term, int other) {
        int bound;
        try {
            bound = x.bound(term, other);
        } catch (UnsupportedOperationException e) {
            return;
        }
        Due.is(run + "the bound is kept", x.valueOf(term) - x.valueOf(other) <= bound, true);
        if (bound < -19 || bound > 20 || atoms.size() > 22) return;
        x.push();
        Due.is(run + "the bound follows", x.follows(2 * x.atMost(term, other, bound)), true);
        Due.is(run + "less does not", x.follows(2 * x.atMost(term, other, bound - 1)), false);
        x.pop();
    }

    public static void main(String[] args) {
        int runs = args.length > 0 ? Integer.parseInt(args[0]) : 8000;
        int from = args.length > 1 ? Integer.parseInt(args[1]) : 0;
        for (int seed = from; seed < from + runs; seed++) new FullSizeTest(seed).look(seed);
        Due.end();
    }
}
