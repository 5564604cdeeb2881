import java.util.ArrayList;
import java.util.List;
import java.util.NoSuchElementException;

/**
 * Runs with as many terms, atoms, clauses and rules as there can be, too large for the oracle: the answers are checked
 * against one another, and explanations by objects that are told fewer clauses.
 */
public final class FullSizeTest {
    private static final int[] GREATEST = {0, 1, 2, 20};

    private final List<int[]> terms = new ArrayList<>();
    private final List<int[]> atoms = new ArrayList<>();
    private final List<int[]> clauses = new ArrayList<>();
    private final List<int[]> rules = new ArrayList<>();
    private long state;

    private FullSizeTest(long seed) {
        state = seed * 2862933555777941757L + 3037000493L;
        boolean arrays = next(2) == 0;
        for (int n = next(6); n >= 0; n--) terms.add(new int[] {0, 0, 0, 0, 0});
        if (arrays) terms.add(new int[] {1, 0, 0, 0, 0});
        for (int n = 0; n < 60; n++) {
            int sort = next(arrays ? 6 : 3) == 0 ? 0 : 2 + next(arrays ? 4 : 1);
            terms.add(new int[] {sort, next(14), next(14), next(14), next(4)});
        }
        int most = GREATEST[next(4)];
        int equals = next(11);
        for (int n = 0; n < 60; n++) {
            atoms.add(new int[] {next(10) < equals ? 1 : 0, next(14), next(14), next(2 * most + 1) - most});
        }
        int length = 1 + next(3);
        for (int n = 0; n < 14; n++) {
            clauses.add(new int[] {next(48), length > 1 ? next(48) : -1, length > 2 ? next(48) : -1});
        }
        for (int n = next(5); n > 0; n--) rules.add(new int[] {"ismc".charAt(next(4)), next(2)});
    }

    private int next(int bound) {
        state = state * 6364136223846793005L + 1442695040888963407L;
        return (int) ((state >>> 33) % bound);
    }

    /** An object that is told the clauses of a set. */
    private Congruary told(int set) {
        Congruary x = new Congruary();
        for (int[] t : terms) {
            if (x.terms() < 14) tell(x, t);
        }
        for (int[] a : atoms) {
            int first = a[1] % x.terms();
            int second = a[2] % x.terms();
            if (isArray(x, first) || isArray(x, second) || x.atoms() == 24) continue;
            if (a[0] == 1) x.equal(first, second);
            else x.atMost(first, second, a[3]);
        }
        for (int[] r : rules) x.rule((char) r[0], r[1] + (r[0] == 'c' ? 2 : 0));
        for (int n = 0; n < clauses.size() && x.atoms() > 0; n++) {
            int[] c = clauses.get(n);
            if ((set >> n & 1) != 0) x.clause(literal(x, c[0]), literal(x, c[1]), literal(x, c[2]));
        }
        return x;
    }

    private static int literal(Congruary x, int number) {
        return number < 0 ? -1 : number % (2 * x.atoms());
    }

    private static boolean isArray(Congruary x, int term) {
        return x.kindOf(term) == 'a' || x.kindOf(term) == 'w';
    }

    private static void tell(Congruary x, int[] t) {
        int many = Math.max(1, x.terms());
        int first = t[1] % many;
        int second = t[2] % many;
        try {
            if (t[0] == 0) x.constant();
            else if (t[0] == 1) x.array();
            else if (t[0] == 2) x.apply(t[4], first, t[4] < 2 ? -1 : second);
            else if (t[0] == 5) x.write(first, second, t[3] % many);
            else x.read(first, second);
        } catch (NoSuchElementException e) {
            // A value where an array should be, or the other way: the term is not told.
        }
    }

    private void look(long seed) {
        int all = (1 << 14) - 1;
        Congruary x = told(all);
        String run = "run " + seed + ": ";
        Due.is(run + "isSound", x.isSound(), true);
        if (x.check()) lookAtModel(run, x);
        else lookAtCore(run, x);
        for (int literal = next(5); literal < 2 * x.atoms(); literal += 1 + next(9)) {
            boolean follows = x.follows(literal);
            Due.is(run + "its contrary follows too", follows && x.follows(literal ^ 1), follows && !x.check());
            if (!follows) continue;
            int set = 0;
            for (int n = 0; n < x.reasons(literal); n++) set |= 1 << x.reasonAt(literal, n);
            Due.is(run + "the reasons are enough", told(set).follows(literal), true);
            for (int n = 0; n < 14; n++) {
                if ((set >> n & 1) == 0) continue;
                Due.is(run + "each reason is needed", told(set & ~(1 << n)).follows(literal), false);
            }
        }
    }

    private void lookAtCore(String run, Congruary x) {
        int set = 0;
        for (int n = 0; n < x.core(); n++) set |= 1 << x.coreAt(n);
        Due.is(run + "the core is enough", told(set).check(), false);
        for (int n = 0; n < 14; n++) {
            if ((set >> n & 1) == 0) continue;
            Due.is(run + "each clause of the core is needed", told(set & ~(1 << n)).check(), true);
        }
        Due.is(run + "coreShare", x.coreShare(), x.core() / (float) x.clauses());
    }

    private void lookAtModel(String run, Congruary x) {
        int classes = 0;
        for (int term = 0; term < x.terms(); term++) {
            if (isArray(x, term)) continue;
            int leader = x.classOf(term);
            if (leader == term) classes++;
            Due.is(run + "a class has one number", x.valueOf(leader), x.valueOf(term));
            Due.is(run + "a class has one term that leads", x.classOf(leader), leader);
            if (leader != term) Due.is(run + "bound in a class", x.bound(leader, term), 0);
            for (int other = 0; other < term; other += 3) {
                if (!isArray(x, other)) lookAtBound(run, x, term, other);
            }
        }
        Due.is(run + "classes", x.classes(), classes);
        for (int literal = 0; literal < 2 * x.atoms(); literal++) {
            Due.is(run + "a literal or its contrary is true", x.isTrue(literal), !x.isTrue(literal ^ 1));
            if (x.follows(literal)) Due.is(run + "what follows is true", x.isTrue(literal), true);
        }
    }

    /** The bound is kept by the model, it follows, and less does not. */
    private void lookAtBound(String run, Congruary x, int term, int other) {
        int bound;
        try {
            bound = x.bound(term, other);
        } catch (UnsupportedOperationException e) {
            return;
        }
        Due.is(run + "the bound is kept", x.valueOf(term) - x.valueOf(other) <= bound, true);
        if (bound < -19 || bound > 20 || x.atoms() > 22) return;
        x.push();
        Due.is(run + "the bound follows", x.follows(2 * x.atMost(term, other, bound)), true);
        Due.is(run + "less does not", x.follows(2 * x.atMost(term, other, bound - 1)), false);
        x.pop();
    }

    public static void main(String[] args) {
        int runs = args.length > 0 ? Integer.parseInt(args[0]) : 8000;
        int from = args.length > 1 ? Integer.parseInt(args[1]) : 0;
        for (int seed = from; seed < from + runs; seed++) new FullSizeTest(seed).look(seed);
        Due.end();
    }
}
