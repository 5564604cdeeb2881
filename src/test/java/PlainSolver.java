import java.util.ArrayList;
import java.util.List;

/**
 * What the document asks of an object of any size, found in a plain way: each demand is a list of alternatives, and an
 * alternative is a list of differences; they are tried one after another, and nothing is learnt from a try. What an
 * array has at an index is a value of its own here, also if no term tells it.
 */
final class PlainSolver {
    private static final int FAR = 100000;
    private static final int MOST_TRIES = 3000;

    private record Term(char kind, int function, int first, int second, int told) { }

    private final List<Term> terms = new ArrayList<>();
    private final List<int[]> atoms = new ArrayList<>();
    private final List<int[]> clauses = new ArrayList<>();
    private final List<int[]> rules = new ArrayList<>();
    /** Each is a list of alternatives, each of these a list of differences: left less right is at most a number. */
    private final List<int[][][]> demands = new ArrayList<>();
    /** The places of arrays that have a value: an array, an index and the node of the value. */
    private final List<int[]> places = new ArrayList<>();
    private int nodes;
    private int tries;
    /** Whether a search took too long, so that its answer means nothing. */
    boolean gaveUp;

    int terms() {
        return terms.size();
    }

    int atoms() {
        return atoms.size();
    }

    void term(char kind, int function, int first, int second, int told) {
        terms.add(new Term(kind, function, first, second, told));
    }

    /** An atom that two values are equal, with no number, or that their difference is at most a number. */
    void atom(int first, int second, Integer most) {
        atoms.add(most == null ? new int[] {first, second} : new int[] {first, second, most});
    }

    void clause(int... literals) {
        clauses.add(literals);
    }

    void rule(char kind, int function) {
        rules.add(new int[] {kind, function});
    }

    boolean isValue(int term) {
        return terms.get(term).kind() != 'a' && terms.get(term).kind() != 'w';
    }

    // ---- demands

    private static int[][] same(int left, int right) {
        return new int[][] {{left, right, 0}, {right, left, 0}};
    }

    private static void putApart(List<int[][]> demand, int left, int right) {
        demand.add(new int[][] {{left, right, -1}});
        demand.add(new int[][] {{right, left, -1}});
    }

    private void putLiteral(List<int[][]> demand, int literal) {
        int[] atom = atoms.get(literal / 2);
        boolean contrary = literal % 2 == 1;
        if (atom.length == 3 && contrary) demand.add(new int[][] {{atom[1], atom[0], -atom[2] - 1}});
        else if (atom.length == 3) demand.add(new int[][] {{atom[0], atom[1], atom[2]}});
        else if (contrary) putApart(demand, atom[0], atom[1]);
        else demand.add(same(atom[0], atom[1]));
    }

    private void close(List<int[][]> demand) {
        demands.add(demand.toArray(new int[0][][]));
    }

    /** Demands all that an interpretation keeps, some of the clauses, and the contrary of a literal or -1. */
    private void demand(int set, int denied) {
        demands.clear();
        places.clear();
        nodes = terms.size() + 1;
        for (int n = 0; n < clauses.size(); n++) {
            if ((set >> n & 1) == 0) continue;
            List<int[][]> demand = new ArrayList<>();
            for (int literal : clauses.get(n)) if (literal >= 0) putLiteral(demand, literal);
            close(demand);
        }
        if (denied >= 0) {
            List<int[][]> demand = new ArrayList<>();
            putLiteral(demand, denied ^ 1);
            close(demand);
        }
        demandFunctions();
        for (int n = 0; n < terms.size(); n++) {
            Term t = terms.get(n);
            if (t.kind() == 'r') demandPlace(t.first(), t.second(), n);
        }
    }

    private void demandFunctions() {
        for (int n = 0; n < terms.size(); n++) {
            for (int m = 0; m < terms.size(); m++) {
                Term t = terms.get(n);
                Term u = terms.get(m);
                if (t.kind() != 'f' || u.kind() != 'f' || t.function() != u.function()) continue;
                if (n < m) {
                    List<int[][]> demand = new ArrayList<>();
                    demand.add(same(n, m));
                    putApart(demand, t.first(), u.first());
                    if (t.second() >= 0) putApart(demand, t.second(), u.second());
                    close(demand);
                }
                for (int[] rule : rules) if (rule[1] == t.function()) demandRule(rule[0], n, m);
            }
            demandUndone(n);
        }
    }

    private void demandRule(int kind, int n, int m) {
        Term t = terms.get(n);
        Term u = terms.get(m);
        List<int[][]> demand = new ArrayList<>();
        if (kind == 'i' && n < m) {
            putApart(demand, n, m);
            demand.add(same(t.first(), u.first()));
            close(demand);
        }
        if (kind == 'm' && n != m) {
            demand.add(new int[][] {{n, m, 0}});
            demand.add(new int[][] {{u.first(), t.first(), 0}});
            close(demand);
        }
        if (kind == 'c' && n < m) {
            demand.add(same(n, m));
            putApart(demand, t.first(), u.second());
            putApart(demand, t.second(), u.first());
            close(demand);
        }
    }

    private void demandUndone(int n) {
        Term t = terms.get(n);
        if (t.kind() != 'f') return;
        Term u = terms.get(t.first());
        for (int[] rule : rules) {
            if (rule[0] != 's' || rule[1] != t.function() || u.kind() != 'f' || u.function() != t.function()) continue;
            demands.add(new int[][][] {same(n, u.first())});
        }
    }

    /** Demands that an array has the value of a node at an index. */
    private void demandPlace(int array, int index, int node) {
        for (int[] place : places) {
            if (place[0] != array) continue;
            List<int[][]> demand = new ArrayList<>();
            demand.add(same(place[2], node));
            putApart(demand, place[1], index);
            close(demand);
        }
        places.add(new int[] {array, index, node});
        Term t = terms.get(array);
        if (t.kind() != 'w') return;
        int other = nodes++;
        List<int[][]> told = new ArrayList<>();
        told.add(same(node, t.told()));
        putApart(told, index, t.second());
        close(told);
        demands.add(new int[][][] {same(node, other), same(index, t.second())});
        demandPlace(t.first(), index, other);
    }

    // ---- search

    private static boolean add(int[][] limits, int[] difference) {
        int left = difference[0];
        int right = difference[1];
        int most = difference[2];
        if (left == right) return most >= 0;
        if (limits[left][right] <= most) return true;
        if (limits[right][left] + most < 0) return false;
        for (int from = 0; from < limits.length; from++) {
            for (int to = 0; to < limits.length; to++) {
                int way = limits[from][left] + most + limits[right][to];
                if (way < limits[from][to]) limits[from][to] = way;
            }
        }
        return true;
    }

    private static boolean addAll(int[][] limits, int[][] differences) {
        for (int[] difference : differences) if (!add(limits, difference)) return false;
        return true;
    }

    private static boolean holds(int[][] limits, int[][] differences) {
        for (int[] d : differences) if (limits[d[0]][d[1]] > d[2]) return false;
        return true;
    }

    private static boolean mayHold(int[][] limits, int[][] differences) {
        for (int[] d : differences) if (limits[d[1]][d[0]] + d[2] < 0) return false;
        return true;
    }

    /** The alternatives of a demand that are still there; null if one of them holds. */
    private static List<int[][]> open(int[][] limits, int[][][] demand) {
        List<int[][]> open = new ArrayList<>();
        for (int[][] alternative : demand) {
            if (holds(limits, alternative)) return null;
            if (mayHold(limits, alternative)) open.add(alternative);
        }
        return open;
    }

    private boolean search(int[][] limits) {
        if (++tries > MOST_TRIES) gaveUp = true;
        if (gaveUp) return false;
        List<int[][]> fewest = null;
        for (boolean changed = true; changed;) {
            changed = false;
            fewest = null;
            for (int[][][] demand : demands) {
                List<int[][]> open = open(limits, demand);
                if (open == null) continue;
                if (open.isEmpty()) return false;
                if (open.size() == 1) {
                    if (!addAll(limits, open.get(0))) return false;
                    changed = true;
                } else if (fewest == null || open.size() < fewest.size()) {
                    fewest = open;
                }
            }
        }
        if (fewest == null) return true;
        for (int[][] alternative : fewest) {
            int[][] copy = new int[limits.length][];
            for (int n = 0; n < limits.length; n++) copy[n] = limits[n].clone();
            if (addAll(copy, alternative) && search(copy)) return true;
            // What has just failed for one difference is not tried again within the next alternative.
            int[] d = alternative[0];
            if (alternative.length == 1 && !add(limits, new int[] {d[1], d[0], -d[2] - 1})) return false;
        }
        return false;
    }

    private int[][] noLimits() {
        int[][] limits = new int[nodes][nodes];
        for (int n = 0; n < nodes; n++) {
            java.util.Arrays.fill(limits[n], FAR);
            limits[n][n] = 0;
        }
        return limits;
    }

    // ---- answers

    /** Whether some of the clauses can be satisfied together with the contrary of a literal, or of none for -1. */
    boolean can(int set, int denied) {
        demand(set, denied);
        tries = 0;
        return search(noLimits());
    }

    /** Whether all clauses can be satisfied if a difference is more than a number. */
    boolean canBeMore(int first, int second, int most) {
        demand(all(), -1);
        tries = 0;
        int[][] limits = noLimits();
        return add(limits, new int[] {second, first, -most - 1}) && search(limits);
    }

    int all() {
        return (1 << clauses.size()) - 1;
    }

    /** The core, or the reasons of a literal, as bits. */
    int thinOut(int literal) {
        int set = all();
        for (int n = 0; n < clauses.size(); n++) {
            if (!can(set & ~(1 << n), literal)) set &= ~(1 << n);
        }
        return set;
    }

    /** The numbers of the model; each is found by halving, for a value that can be at most one can be at most more. */
    int[] model() {
        demand(all(), -1);
        int zero = terms.size();
        int[][] limits = noLimits();
        for (int n = 0; n < terms.size(); n++) if (isValue(n)) add(limits, new int[] {zero, n, 0});
        int[] numbers = new int[terms.size()];
        for (int n = 0; n < terms.size(); n++) {
            if (!isValue(n)) continue;
            int low = 0;
            int high = 300;
            while (low < high) {
                int middle = (low + high) / 2;
                int[][] copy = new int[nodes][];
                for (int m = 0; m < nodes; m++) copy[m] = limits[m].clone();
                tries = 0;
                if (add(copy, new int[] {n, zero, middle}) && search(copy)) high = middle;
                else low = middle + 1;
            }
            numbers[n] = low;
            add(limits, new int[] {n, zero, low});
            add(limits, new int[] {zero, n, -low});
        }
        return numbers;
    }
}
