import java.util.NoSuchElementException;

/** Runs of full size, each answer compared with that of the plain solver. */
public final class PlainTest {
    private static final int[] FARTHEST = {0, 1, 2, 3, 20};

    private final Congruary x = new Congruary();
    private final PlainSolver plain = new PlainSolver();
    private long state;
    private static int compared;
    private static int skipped;

    private PlainTest(long seed) {
        state = seed * 2862933555777941757L + 3037000493L;
    }

    private int next(int bound) {
        state = state * 6364136223846793005L + 1442695040888963407L;
        return (int) ((state >>> 33) % bound);
    }

    private void tell() {
        int arrays = next(3) == 0 ? 1 + next(2) : 0;
        int constants = 1 + next(7);
        for (int n = 0; n < arrays; n++) told('a', -1, -1, -1, -1, x.array());
        for (int n = 0; n < constants; n++) told('c', -1, -1, -1, -1, x.constant());
        int functions = 1 + next(4);
        for (int n = 0; n < 200 && x.terms() < 14; n++) tellTerm(arrays > 0 ? next(5) : 0, next(functions));
        int equals = next(11);
        int most = FARTHEST[next(5)];
        for (int n = 0; n < 200 && x.atoms() < 24; n++) tellAtom(next(10) < equals, next(2 * most + 1) - most);
        int single = next(4);
        for (int n = 0; n < 14; n++) {
            int first = literal(next(4) != 0);
            int second = next(4) < single ? -1 : literal(next(2) == 0);
            int third = next(2) == 0 ? -1 : literal(next(2) == 0);
            if (second < 0) third = -1;
            x.clause(first, second, third);
            plain.clause(first, second, third);
        }
        for (int n = next(5); n > 0; n--) {
            char kind = "ismc".charAt(next(4));
            int function = next(2) + (kind == 'c' ? 2 : 0);
            x.rule(kind, function);
            plain.rule(kind, function);
        }
    }

    /** A literal: one for which two values are apart, or any other one. */
    private int literal(boolean contrary) {
        return 2 * next(x.atoms()) + (contrary ? 1 : next(2));
    }

    private void told(char kind, int function, int first, int second, int value, int number) {
        if (number == plain.terms()) plain.term(kind, function, first, second, value);
    }

    private void tellTerm(int sort, int function) {
        int first = next(x.terms());
        int second = next(x.terms());
        int value = next(x.terms());
        try {
            if (sort < 3) {
                int other = function < 2 ? -1 : second;
                told('f', function, first, other, -1, x.apply(function, first, other));
            } else if (sort == 3) {
                told('r', -1, first, second, -1, x.read(first, second));
            } else {
                told('w', -1, first, second, value, x.write(first, second, value));
            }
        } catch (NoSuchElementException e) {
            // An array where a value should be, or the other way: the term is not told.
        }
    }

    private void tellAtom(boolean equal, int most) {
        int first = next(x.terms());
        int second = next(x.terms());
        if (!plain.isValue(first) || !plain.isValue(second)) return;
        int atoms = x.atoms();
        int number = equal ? x.equal(first, second) : x.atMost(first, second, most);
        if (number == atoms) plain.atom(first, second, equal ? null : (Integer) most);
    }

    /** Compares an answer, if the plain solver found its own. */
    private void is(String call, Object got, Object want) {
        if (plain.gaveUp) {
            skipped++;
        } else {
            Due.is(call, got, want);
            compared++;
        }
        plain.gaveUp = false;
    }

    private void compare(String run) {
        boolean can = plain.can(plain.all(), -1);
        is(run + "check", x.check(), can);
        if (x.check()) compareModel(run);
        else is(run + "core", set(-1), plain.thinOut(-1));
        for (int literal = next(6); literal < 2 * x.atoms(); literal += 1 + next(10)) {
            boolean follows = !plain.can(plain.all(), literal);
            is(run + "follows " + literal, x.follows(literal), follows);
            if (x.follows(literal)) is(run + "reasons " + literal, set(literal), plain.thinOut(literal));
        }
    }

    /** The core, or the reasons of a literal, as bits. */
    private int set(int literal) {
        int set = 0;
        int count = literal < 0 ? x.core() : x.reasons(literal);
        for (int n = 0; n < count; n++) set |= 1 << (literal < 0 ? x.coreAt(n) : x.reasonAt(literal, n));
        return set;
    }

    private void compareModel(String run) {
        int[] model = plain.model();
        int[] numbers = new int[model.length];
        for (int n = 0; n < x.terms(); n++) if (plain.isValue(n)) numbers[n] = x.valueOf(n);
        is(run + "the model", java.util.Arrays.toString(numbers), java.util.Arrays.toString(model));
        for (int n = 0; n < 6; n++) {
            int first = next(x.terms());
            int second = next(x.terms());
            if (!plain.isValue(first) || !plain.isValue(second)) continue;
            Object bound = Due.answer(() -> x.bound(first, second));
            int most = bound instanceof Integer ? (Integer) bound : 400;
            is(run + "bound", plain.canBeMore(first, second, most), !(bound instanceof Integer));
            is(run + "less than the bound", plain.canBeMore(first, second, most - 1), true);
            boolean same = !plain.canBeMore(first, second, 0) && !plain.canBeMore(second, first, 0);
            is(run + "the same class", x.classOf(first) == x.classOf(second), same);
        }
    }

    public static void main(String[] args) {
        int runs = args.length > 0 ? Integer.parseInt(args[0]) : 1500;
        int from = args.length > 1 ? Integer.parseInt(args[1]) : 0;
        for (int seed = from; seed < from + runs; seed++) {
            PlainTest run = new PlainTest(seed);
            run.tell();
            run.compare("run " + seed + ": ");
        }
        System.out.println(compared + " answers were compared, " + skipped + " took the plain solver too long");
        Due.end();
    }
}
