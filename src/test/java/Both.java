import java.util.Arrays;

/** An object and the plain solver, which are told the same, and whose answers are compared. */
final class Both {
    private final Congruary x;
    private final PlainSolver plain = new PlainSolver();
    private long state;
    private static int compared;
    private static int skipped;

    /** The seed tells what is picked by 'next', and so what is compared. */
    Both(Congruary x, long seed) {
        this.x = x;
        state = seed * 2862933555777941757L + 3037000493L;
    }

    int next(int bound) {
        state = state * 6364136223846793005L + 1442695040888963407L;
        return (int) ((state >>> 33) % bound);
    }

    int terms() {
        return plain.terms();
    }

    int atoms() {
        return plain.atoms();
    }

    // ---- what is told

    private void term(int number, char kind, int function, int first, int second, int value) {
        if (number == plain.terms()) plain.term(kind, function, first, second, value);
    }

    void constant() {
        term(x.constant(), 'c', -1, -1, -1, -1);
    }

    void array() {
        term(x.array(), 'a', -1, -1, -1, -1);
    }

    void apply(int function, int first, int second) {
        term(x.apply(function, first, second), 'f', function, first, second, -1);
    }

    void read(int array, int index) {
        term(x.read(array, index), 'r', -1, array, index, -1);
    }

    void write(int array, int index, int value) {
        term(x.write(array, index, value), 'w', -1, array, index, value);
    }

    void equal(int first, int second) {
        if (!plain.isValue(first) || !plain.isValue(second)) return;
        if (x.equal(first, second) == plain.atoms()) plain.atom(first, second, null);
    }

    void atMost(int first, int second, int most) {
        if (!plain.isValue(first) || !plain.isValue(second)) return;
        if (x.atMost(first, second, most) == plain.atoms()) plain.atom(first, second, most);
    }

    void clause(int first, int second, int third) {
        x.clause(first, second, third);
        plain.clause(first, second, third);
    }

    void rule(char kind, int function) {
        x.rule(kind, function);
        plain.rule(kind, function);
    }

    // ---- what is compared

    /** Compares an answer, if the plain solver found its own. */
    private void is(String call, Object got, Object want) {
        if (plain.gaveUp) {
            skipped++;
        } else {
            Due.is(call, got, want);
            compared++;
        }
        plain.gaveUp = false;
    }

    void compare(String run) {
        boolean can = x.check();
        is(run + "check", can, plain.can(plain.all(), -1));
        if (can) compareModel(run);
        else is(run + "core", set(-1), plain.thinOut(-1));
        for (int literal = next(6); literal < 2 * plain.atoms(); literal += 4 + next(7)) {
            boolean follows = x.follows(literal);
            is(run + "follows " + literal, follows, !plain.can(plain.all(), literal));
            if (follows) is(run + "reasons " + literal, set(literal), plain.thinOut(literal));
        }
    }

    /** The core, or the reasons of a literal, as bits. */
    private int set(int literal) {
        int set = 0;
        int count = literal < 0 ? x.core() : x.reasons(literal);
        for (int n = 0; n < count; n++) set |= 1 << (literal < 0 ? x.coreAt(n) : x.reasonAt(literal, n));
        return set;
    }

    private void compareModel(String run) {
        int[] model = plain.model();
        int[] numbers = new int[model.length];
        for (int n = 0; n < plain.terms(); n++) if (plain.isValue(n)) numbers[n] = x.valueOf(n);
        is(run + "the model", Arrays.toString(numbers), Arrays.toString(model));
        for (int n = 0; n < 6; n++) {
            int first = next(plain.terms());
            int second = next(plain.terms());
            if (plain.isValue(first) && plain.isValue(second)) compareTwo(run, first, second);
        }
    }

    private void compareTwo(String run, int first, int second) {
        Object bound = Due.answer(() -> x.bound(first, second));
        int most = bound instanceof Integer ? (Integer) bound : 400;
        is(run + "bound", plain.canBeMore(first, second, most), !(bound instanceof Integer));
        is(run + "less than the bound", plain.canBeMore(first, second, most - 1), true);
        boolean same = !plain.canBeMore(first, second, 0) && !plain.canBeMore(second, first, 0);
        is(run + "the same class", x.classOf(first) == x.classOf(second), same);
    }

    /** Ends the program, with 1 if an answer was not due. */
    static void end() {
        System.out.println(compared + " answers were compared, " + skipped + " took the plain solver too long");
        Due.end();
    }
}
