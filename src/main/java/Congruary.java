import java.util.Arrays;
import java.util.NoSuchElementException;

/** A solver for equalities of functions, differences of whole numbers and arrays. */
public final class Congruary {
    private static final int FUNCTIONS = 4;
    private static final int FUNCTIONS_WITH_ONE = 2;
    private static final int MOST_FRAMES = 6;
    private static final int FARTHEST = 20;

    private final Table table = new Table();
    private final Statements statements = new Statements();
    private final Answers answers = new Answers(table, statements);
    private final Model model = new Model(table, statements, answers.numbers);
    private final int[] frameTerms = new int[MOST_FRAMES];
    private final int[] frameAtoms = new int[MOST_FRAMES];
    private final int[] frameClauses = new int[MOST_FRAMES];
    private final int[] frameRules = new int[MOST_FRAMES];
    private int frames;

    public Congruary() {
    }

    // ---- terms and atoms

    public int constant() throws IllegalStateException {
        if (table.isFull()) throw new IllegalStateException();
        answers.forget();
        return table.add('c', Table.NONE, Table.NONE, Table.NONE, Table.NONE);
    }

    public int array() throws IllegalStateException {
        if (table.isFull()) throw new IllegalStateException();
        answers.forget();
        return table.add('a', Table.NONE, Table.NONE, Table.NONE, Table.NONE);
    }

    public int apply(int function, int first, int second)
            throws IllegalArgumentException, NoSuchElementException, IllegalStateException {
        if (function < 0 || function >= FUNCTIONS) throw new IllegalArgumentException();
        boolean withOne = function < FUNCTIONS_WITH_ONE;
        if (withOne && second != Table.NONE) throw new IllegalArgumentException();
        if (!table.isValue(first)) throw new NoSuchElementException();
        if (!withOne && !table.isValue(second)) throw new NoSuchElementException();
        int there = table.find('f', function, first, second, Table.NONE);
        if (there != Table.NONE) return there;
        if (table.isFull()) throw new IllegalStateException();
        answers.forget();
        return table.add('f', function, first, second, Table.NONE);
    }

    public int read(int array, int index) throws NoSuchElementException, IllegalStateException {
        if (!table.isArray(array) || !table.isValue(index)) throw new NoSuchElementException();
        int there = table.find('r', Table.NONE, array, index, Table.NONE);
        if (there != Table.NONE) return there;
        if (table.isFull()) throw new IllegalStateException();
        answers.forget();
        return table.add('r', Table.NONE, array, index, Table.NONE);
    }

    public int write(int array, int index, int value) throws NoSuchElementException, IllegalStateException {
        if (!table.isArray(array)) throw new NoSuchElementException();
        if (!table.isValue(index) || !table.isValue(value)) throw new NoSuchElementException();
        int there = table.find('w', Table.NONE, array, index, value);
        if (there != Table.NONE) return there;
        if (table.isFull()) throw new IllegalStateException();
        answers.forget();
        return table.add('w', Table.NONE, array, index, value);
    }

    public int terms() {
        return table.count;
    }

    public char kindOf(int term) throws NoSuchElementException {
        if (!table.isTerm(term)) throw new NoSuchElementException();
        return table.kinds[term];
    }

    public int equal(int first, int second) throws NoSuchElementException, IllegalStateException {
        if (!table.isValue(first) || !table.isValue(second)) throw new NoSuchElementException();
        int fact = Fact.same(first, second);
        int there = statements.findAtom(fact);
        if (there >= 0) return there;
        if (statements.hasAllAtoms()) throw new IllegalStateException();
        return statements.addAtom(fact);
    }

    public int atMost(int first, int second, int most)
            throws NoSuchElementException, IllegalArgumentException, IllegalStateException {
        if (!table.isValue(first) || !table.isValue(second)) throw new NoSuchElementException();
        if (most < -FARTHEST || most > FARTHEST) throw new IllegalArgumentException();
        int fact = Fact.within(first, second, most);
        int there = statements.findAtom(fact);
        if (there >= 0) return there;
        if (statements.hasAllAtoms()) throw new IllegalStateException();
        return statements.addAtom(fact);
    }

    public int atoms() {
        return statements.atoms;
    }

    // ---- clauses, rules, frames

    public int clause(int first, int second, int third) throws NoSuchElementException, IllegalStateException {
        if (!statements.isLiteral(first)) throw new NoSuchElementException();
        if (second != Statements.NONE && !statements.isLiteral(second)) throw new NoSuchElementException();
        if (third != Statements.NONE && !statements.isLiteral(third)) throw new NoSuchElementException();
        if (statements.hasAllClauses()) throw new IllegalStateException();
        answers.forget();
        return statements.addClause(first, second, third);
    }

    public int clauses() {
        return statements.clauses;
    }

    public int rule(char kind, int function) throws IllegalArgumentException, IllegalStateException {
        boolean forOne = kind == 'i' || kind == 's' || kind == 'm';
        if (!forOne && kind != 'c') throw new IllegalArgumentException();
        if (function < 0 || function >= FUNCTIONS) throw new IllegalArgumentException();
        if (forOne != function < FUNCTIONS_WITH_ONE) throw new IllegalArgumentException();
        if (statements.hasAllRules()) throw new IllegalStateException();
        answers.forget();
        return statements.addRule(kind, function);
    }

    public int push() throws IllegalStateException {
        if (frames >= MOST_FRAMES) throw new IllegalStateException();
        frameTerms[frames] = table.count;
        frameAtoms[frames] = statements.atoms;
        frameClauses[frames] = statements.clauses;
        frameRules[frames] = statements.rules;
        frames++;
        return frames;
    }

    public int pop() throws IllegalStateException {
        if (frames <= 0) throw new IllegalStateException();
        frames--;
        table.count = frameTerms[frames];
        statements.atoms = frameAtoms[frames];
        statements.clauses = frameClauses[frames];
        statements.rules = frameRules[frames];
        answers.forget();
        return statements.clauses;
    }

    // ---- answers and explanations

    public boolean check() {
        return answers.findInterpretation();
    }

    public int core() throws IllegalStateException {
        if (answers.findInterpretation()) throw new IllegalStateException();
        return Integer.bitCount(answers.thinOut(Statements.NONE));
    }

    public int coreAt(int index) throws IllegalStateException, IndexOutOfBoundsException {
        if (answers.findInterpretation()) throw new IllegalStateException();
        int clauses = answers.thinOut(Statements.NONE);
        if (index < 0 || index >= Integer.bitCount(clauses)) throw new IndexOutOfBoundsException();
        return numberInSet(clauses, index);
    }

    public boolean follows(int literal) throws NoSuchElementException {
        if (!statements.isLiteral(literal)) throw new NoSuchElementException();
        return !answers.findInterpretation() || answers.isImplied(literal);
    }

    public int reasons(int literal) throws NoSuchElementException, IllegalStateException {
        if (!statements.isLiteral(literal)) throw new NoSuchElementException();
        if (answers.findInterpretation() && !answers.isImplied(literal)) throw new IllegalStateException();
        return Integer.bitCount(answers.thinOut(literal));
    }

    public int reasonAt(int literal, int index)
            throws NoSuchElementException, IllegalStateException, IndexOutOfBoundsException {
        if (!statements.isLiteral(literal)) throw new NoSuchElementException();
        if (answers.findInterpretation() && !answers.isImplied(literal)) throw new IllegalStateException();
        int clauses = answers.thinOut(literal);
        if (index < 0 || index >= Integer.bitCount(clauses)) throw new IndexOutOfBoundsException();
        return numberInSet(clauses, index);
    }

    public int bound(int first, int second)
            throws NoSuchElementException, IllegalStateException, UnsupportedOperationException {
        if (!table.isValue(first) || !table.isValue(second)) throw new NoSuchElementException();
        if (!answers.findInterpretation()) throw new IllegalStateException();
        int most = answers.findBound(first, second);
        if (most > Answers.GREATEST_BOUND) throw new UnsupportedOperationException();
        return most;
    }

    // ---- classes and the model

    public int classOf(int term) throws NoSuchElementException, IllegalStateException {
        if (!table.isValue(term)) throw new NoSuchElementException();
        if (!answers.findInterpretation()) throw new IllegalStateException();
        answers.findClasses();
        return answers.leaders[term];
    }

    public int classes() throws IllegalStateException {
        if (!answers.findInterpretation()) throw new IllegalStateException();
        answers.findClasses();
        int count = 0;
        for (int term = 0; term < table.count; term++) {
            if (table.isValue(term) && answers.leaders[term] == term) count++;
        }
        return count;
    }

    public int valueOf(int term) throws NoSuchElementException, IllegalStateException {
        if (!table.isValue(term)) throw new NoSuchElementException();
        if (!answers.findInterpretation()) throw new IllegalStateException();
        answers.findModel();
        return answers.numbers[term];
    }

    public int functionAt(int function, int first, int second) throws IllegalArgumentException, IllegalStateException {
        if (function < 0 || function >= FUNCTIONS) throw new IllegalArgumentException();
        if (!answers.findInterpretation()) throw new IllegalStateException();
        answers.findModel();
        return model.ofFunction(function, first, second);
    }

    public int entry(int array, int at) throws NoSuchElementException, IllegalStateException {
        if (!table.isArray(array)) throw new NoSuchElementException();
        if (!answers.findInterpretation()) throw new IllegalStateException();
        answers.findModel();
        return model.ofArray(array, at);
    }

    public boolean isTrue(int literal) throws NoSuchElementException, IllegalStateException {
        if (!statements.isLiteral(literal)) throw new NoSuchElementException();
        if (!answers.findInterpretation()) throw new IllegalStateException();
        answers.findModel();
        return model.makesTrue(literal);
    }

    // ---- figures

    public long trueLiterals() throws IllegalStateException {
        if (!answers.findInterpretation()) throw new IllegalStateException();
        answers.findModel();
        long count = 0;
        for (int clause = 0; clause < statements.clauses; clause++) count += model.trueIn(clause);
        return count;
    }

    public float coreShare() throws IllegalStateException {
        if (answers.findInterpretation()) throw new IllegalStateException();
        // Without clauses everything can be satisfied, so that a core means that there are some.
        if (statements.clauses <= 0) return 0;
        return (float) Integer.bitCount(answers.thinOut(Statements.NONE)) / (float) statements.clauses;
    }

    public double meanValue() throws IllegalStateException, ArithmeticException {
        if (!answers.findInterpretation()) throw new IllegalStateException();
        answers.findModel();
        long sum = 0;
        int values = 0;
        for (int term = 0; term < table.count; term++) {
            if (table.isValue(term)) {
                sum += answers.numbers[term];
                values++;
            }
        }
        if (values == 0) throw new ArithmeticException();
        return (double) sum / (double) values;
    }

    public boolean isSound() {
        if (!answers.findInterpretation()) return answers.areContrary(answers.thinOut(Statements.NONE));
        answers.findModel();
        return model.keepsClauses() && model.keepsRules() && model.keepsTerms();
    }

    /** The number at an index in a set of numbers that are given as bits. */
    private static int numberInSet(int set, int index) {
        int rest = set;
        for (int step = 0; step < index; step++) rest &= rest - 1;
        return Integer.numberOfTrailingZeros(rest);
    }

    /** What can be said of two terms, packed into one int, so that lists of facts are lists of numbers. */
    private static final class Fact {
        static final int NONE = -1;
        static final int WITHIN = 0;
        static final int SAME = 1;
        static final int APART = 2;
        private static final int SORT_AT = 18;
        private static final int LEFT_AT = 14;
        private static final int RIGHT_AT = 10;
        private static final int TERM_BITS = 15;
        private static final int MOST_BITS = 1023;
        private static final int MOST_OF_ZERO = 512;

        /** That the left term less the right one is at most a number. */
        static int within(int left, int right, int most) {
            return WITHIN << SORT_AT | left << LEFT_AT | right << RIGHT_AT | most + MOST_OF_ZERO;
        }

        static int same(int left, int right) {
            return SAME << SORT_AT | left << LEFT_AT | right << RIGHT_AT;
        }

        static int apart(int left, int right) {
            return APART << SORT_AT | left << LEFT_AT | right << RIGHT_AT;
        }

        static int contrary(int fact) {
            int sort = sort(fact);
            if (sort == SAME) return apart(left(fact), right(fact));
            if (sort == APART) return same(left(fact), right(fact));
            return within(right(fact), left(fact), -most(fact) - 1);
        }

        static int sort(int fact) {
            return fact >> SORT_AT;
        }

        static int left(int fact) {
            return fact >> LEFT_AT & TERM_BITS;
        }

        static int right(int fact) {
            return fact >> RIGHT_AT & TERM_BITS;
        }

        static int most(int fact) {
            return (fact & MOST_BITS) - MOST_OF_ZERO;
        }

        /** Whether a fact is true if its left term less its right one is a number. */
        static boolean isTrueFor(int fact, int difference) {
            int sort = fact >> SORT_AT;
            if (sort == WITHIN) return difference <= (fact & MOST_BITS) - MOST_OF_ZERO;
            return difference == 0 == (sort == SAME);
        }
    }

    /** The terms. What a kind of term does not have is NONE. */
    private static final class Table {
        static final int MOST = 14;
        static final int NONE = -1;

        final char[] kinds = new char[MOST];
        final int[] functions = new int[MOST];
        /** The first argument, or the array that is read or written. */
        final int[] firsts = new int[MOST];
        /** The second argument, or the index. */
        final int[] seconds = new int[MOST];
        final int[] tolds = new int[MOST];
        int count;

        boolean isFull() {
            return count >= MOST;
        }

        boolean isTerm(int term) {
            return term >= 0 && term < count;
        }

        boolean isArray(int term) {
            return isTerm(term) && (kinds[term] == 'a' || kinds[term] == 'w');
        }

        boolean isValue(int term) {
            return isTerm(term) && kinds[term] != 'a' && kinds[term] != 'w';
        }

        /** The term that is made of the same, or NONE. */
        int find(char kind, int function, int first, int second, int told) {
            for (int term = 0; term < count; term++) {
                boolean sameParts = firsts[term] == first && seconds[term] == second && tolds[term] == told;
                if (sameParts && kinds[term] == kind && functions[term] == function) return term;
            }
            return NONE;
        }

        int add(char kind, int function, int first, int second, int told) {
            kinds[count] = kind;
            functions[count] = function;
            firsts[count] = first;
            seconds[count] = second;
            tolds[count] = told;
            count++;
            return count - 1;
        }

        /** The constant array that an array comes from. */
        private int origin(int array) {
            int at = array;
            for (int step = 0; step < count && kinds[at] == 'w'; step++) at = firsts[at];
            return at;
        }

        /** Whether two terms are values of arrays that come from the same constant one. */
        boolean haveOneOrigin(int term, int other) {
            if (kinds[term] != 'r' || kinds[other] != 'r') return false;
            return origin(firsts[term]) == origin(firsts[other]);
        }

        boolean isOfFunction(int term, int function) {
            return kinds[term] == 'f' && functions[term] == function;
        }
    }

    /** The atoms, the clauses and the rules. */
    private static final class Statements {
        static final int NONE = -1;
        static final int LITERALS = 3;
        static final int MOST_ATOMS = 24;
        private static final int MOST_CLAUSES = 14;
        private static final int MOST_RULES = 4;

        final int[] atomFacts = new int[MOST_ATOMS];
        final int[] literals = new int[MOST_CLAUSES * LITERALS];
        final char[] ruleKinds = new char[MOST_RULES];
        final int[] ruleFunctions = new int[MOST_RULES];
        int atoms;
        int clauses;
        int rules;

        boolean hasAllAtoms() {
            return atoms >= MOST_ATOMS;
        }

        boolean hasAllClauses() {
            return clauses >= MOST_CLAUSES;
        }

        boolean hasAllRules() {
            return rules >= MOST_RULES;
        }

        boolean isLiteral(int literal) {
            return literal >= 0 && literal < 2 * atoms;
        }

        int findAtom(int fact) {
            for (int atom = 0; atom < atoms; atom++) {
                if (atomFacts[atom] == fact) return atom;
            }
            return NONE;
        }

        int addAtom(int fact) {
            atomFacts[atoms] = fact;
            atoms++;
            return atoms - 1;
        }

        int addClause(int first, int second, int third) {
            literals[clauses * LITERALS] = first;
            literals[clauses * LITERALS + 1] = second;
            literals[clauses * LITERALS + 2] = third;
            clauses++;
            return clauses - 1;
        }

        int addRule(char kind, int function) {
            ruleKinds[rules] = kind;
            ruleFunctions[rules] = function;
            rules++;
            return rules;
        }

        int factOf(int literal) {
            int fact = atomFacts[literal / 2];
            return literal % 2 == 0 ? fact : Fact.contrary(fact);
        }

        /** The set of all clauses, as bits. */
        int allClauses() {
            return (1 << clauses) - 1;
        }
    }

    /**
     * What the numbers of the terms have to keep so that an interpretation comes of them: demands, of each of which
     * at least one fact is true. The first demands are the clauses, in their order.
     */
    private static final class Demands {
        private final Table table;
        private final Statements statements;
        int[] facts = new int[128];
        /** Where the facts of each demand end; they begin where those of the demand before it end. */
        int[] ends = new int[64];
        int count;
        int clauses;
        private int used;

        Demands(Table table, Statements statements) {
            this.table = table;
            this.statements = statements;
        }

        void build() {
            count = 0;
            used = 0;
            clauses = statements.clauses;
            for (int clause = 0; clause < statements.clauses; clause++) demandClause(clause);
            for (int term = 0; term < table.count; term++) {
                if (table.kinds[term] == 'f') demandFunction(term);
                if (table.kinds[term] == 'r') demandTold(term);
                for (int other = 0; other < term; other++) {
                    if (table.haveOneOrigin(term, other)) demandSameEntry(term, other);
                }
            }
        }

        private void demandClause(int clause) {
            int from = clause * Statements.LITERALS;
            for (int at = from; at < from + Statements.LITERALS; at++) {
                int literal = statements.literals[at];
                if (literal != Statements.NONE) put(statements.factOf(literal));
            }
            close();
        }

        private void demandFunction(int term) {
            int function = table.functions[term];
            for (int other = 0; other < term; other++) {
                if (table.isOfFunction(other, function)) demandSameForSame(term, other);
            }
            for (int rule = 0; rule < statements.rules; rule++) {
                if (statements.ruleFunctions[rule] != function) continue;
                char kind = statements.ruleKinds[rule];
                if (kind == 's') demandUndone(term);
                for (int other = 0; other < term; other++) {
                    if (table.isOfFunction(other, function)) demandRule(kind, term, other);
                }
            }
        }

        private void demandSameForSame(int term, int other) {
            put(Fact.same(term, other));
            put(Fact.apart(table.firsts[term], table.firsts[other]));
            if (table.seconds[term] != Table.NONE) put(Fact.apart(table.seconds[term], table.seconds[other]));
            close();
        }

        private void demandUndone(int term) {
            int argument = table.firsts[term];
            if (!table.isOfFunction(argument, table.functions[term])) return;
            put(Fact.same(term, table.firsts[argument]));
            close();
        }

        private void demandRule(char kind, int term, int other) {
            int first = table.firsts[term];
            int otherFirst = table.firsts[other];
            if (kind == 'i') {
                put(Fact.same(first, otherFirst));
                put(Fact.apart(term, other));
                close();
            }
            if (kind == 'c') {
                put(Fact.same(term, other));
                put(Fact.apart(first, table.seconds[other]));
                put(Fact.apart(table.seconds[term], otherFirst));
                close();
            }
            if (kind == 'm') {
                put(Fact.within(term, other, 0));
                put(Fact.within(otherFirst, first, 0));
                close();
                put(Fact.within(other, term, 0));
                put(Fact.within(first, otherFirst, 0));
                close();
            }
        }

        /** Demands what is told by the writes that what is read comes by. */
        private void demandTold(int term) {
            int array = table.firsts[term];
            for (int step = 0; step < table.count && table.kinds[array] == 'w'; step++) {
                put(Fact.same(term, table.tolds[array]));
                put(Fact.apart(table.seconds[term], table.seconds[array]));
                putStopped(term, array);
                close();
                array = table.firsts[array];
            }
        }

        /** Demands that two values are the same that come from one origin for the same index. */
        private void demandSameEntry(int term, int other) {
            put(Fact.same(term, other));
            put(Fact.apart(table.seconds[term], table.seconds[other]));
            putStopped(term, Table.NONE);
            putStopped(other, Table.NONE);
            close();
        }

        /** Puts that a write on the way from what is read to an array, or to the origin, has the index of the read. */
        private void putStopped(int term, int until) {
            int array = table.firsts[term];
            for (int step = 0; step < table.count && array != until && table.kinds[array] == 'w'; step++) {
                put(Fact.same(table.seconds[term], table.seconds[array]));
                array = table.firsts[array];
            }
        }

        private void put(int fact) {
            if (used >= facts.length) facts = Arrays.copyOf(facts, 2 * facts.length);
            facts[used] = fact;
            used++;
        }

        private void close() {
            if (count >= ends.length) ends = Arrays.copyOf(ends, 2 * ends.length);
            ends[count] = used;
            count++;
        }
    }

    /**
     * What is known of the differences of the terms: the least number that each difference is at most, with all that
     * comes of these, and which terms are not the same as which. The number zero is a node behind those of the terms,
     * which are at least it.
     */
    private static final class Differences {
        private static final int MOST_NODES = Table.MOST + 1;
        private static final int NO_LIMIT = 1000000;

        int nodes;
        int zero;
        /** How much of the state is in use. */
        int size;
        int causeSize;
        /** A limit for each row of two nodes, and then for each node the terms that are apart from it, as bits. */
        final int[] state = new int[MOST_NODES * MOST_NODES + MOST_NODES];
        /** The tries from which a limit comes, for each row of two nodes, and then those that two terms are apart. */
        final long[] causes = new long[2 * MOST_NODES * MOST_NODES];
        /** The tries from which the last clash comes. */
        long clash;
        /** Numbers of the terms that keep the limits. */
        final int[] numbers = new int[Table.MOST];

        void clear(int terms) {
            nodes = terms + 1;
            zero = terms;
            size = nodes * nodes + nodes;
            causeSize = 2 * nodes * nodes;
            Arrays.fill(state, 0, nodes * nodes, NO_LIMIT);
            Arrays.fill(state, nodes * nodes, size, 0);
            Arrays.fill(causes, 0, 2 * nodes * nodes, 0L);
            for (int node = 0; node < nodes; node++) {
                state[zero * nodes + node] = 0;
                state[node * nodes + node] = 0;
            }
        }

        int limit(int left, int right) {
            return state[left * nodes + right];
        }

        int apartFrom(int term) {
            return state[nodes * nodes + term];
        }

        /**
         * Makes numbers that keep the limits. The terms up to one have the least numbers that keep them apart from
         * those that they have to be apart from, the other terms such that no two terms are the same without need.
         */
        void chooseNumbers(int lastLow) {
            for (int term = 0; term < zero; term++) {
                int low = 0;
                int high = state[term * nodes + zero];
                for (int other = 0; other < term; other++) {
                    low = Math.max(low, numbers[other] - state[other * nodes + term]);
                    high = Math.min(high, numbers[other] + state[term * nodes + other]);
                }
                low = Math.max(low, -state[zero * nodes + term]);
                numbers[term] = chooseNumber(term, low, high, term <= lastLow);
            }
        }

        /** A number from low to high for a term. */
        private int chooseNumber(int term, int low, int high, boolean least) {
            int takenByAll = 0;
            int takenByApart = 0;
            int apart = state[nodes * nodes + term];
            for (int other = 0; other < term; other++) {
                int place = numbers[other] - low;
                if (place < 0 || place > Table.MOST) continue;
                takenByAll |= 1 << place;
                if ((apart >> other & 1) != 0) takenByApart |= 1 << place;
            }
            int free = low + Integer.numberOfTrailingZeros(~takenByAll);
            if (!least && free <= high) return free;
            free = low + Integer.numberOfTrailingZeros(~takenByApart);
            return free <= high ? free : low;
        }

        /** Whether a fact is true for the numbers, or terms are known to be apart. */
        boolean grants(int fact) {
            int left = Fact.left(fact);
            int right = Fact.right(fact);
            if (Fact.isTrueFor(fact, numbers[left] - numbers[right])) return true;
            return Fact.sort(fact) == Fact.APART && areApart(left, right);
        }

        /** Whether a fact can no longer be true. */
        boolean denies(int fact) {
            int left = Fact.left(fact);
            int right = Fact.right(fact);
            int there = state[left * nodes + right];
            int back = state[right * nodes + left];
            int sort = Fact.sort(fact);
            if (sort == Fact.WITHIN) return back + Fact.most(fact) < 0;
            if (sort == Fact.SAME) return there < 0 || back < 0 || areApart(left, right);
            return there <= 0 && back <= 0;
        }

        /** The tries from which it comes that a fact can no longer be true. */
        long whyDenied(int fact) {
            int there = Fact.left(fact) * nodes + Fact.right(fact);
            int back = Fact.right(fact) * nodes + Fact.left(fact);
            int sort = Fact.sort(fact);
            if (sort == Fact.WITHIN) return causes[back];
            if (sort == Fact.APART) return causes[there] | causes[back];
            if (state[there] < 0) return causes[there];
            return state[back] < 0 ? causes[back] : causes[nodes * nodes + there];
        }

        long whyLimit(int left, int right) {
            return causes[left * nodes + right];
        }

        long whyApart(int left, int right) {
            return causes[nodes * nodes + left * nodes + right];
        }

        /** Adds a fact that comes from some tries. Answers whether it can be true. */
        boolean assume(int fact, long why) {
            int left = Fact.left(fact);
            int right = Fact.right(fact);
            int sort = Fact.sort(fact);
            if (sort == Fact.WITHIN) return restrict(left, right, Fact.most(fact), why);
            if (sort == Fact.APART) return part(left, right, why);
            if (areApart(left, right)) {
                clash = why | whyApart(left, right);
                return false;
            }
            return restrict(left, right, 0, why) && restrict(right, left, 0, why);
        }

        /** Adds that the left node less the right one is at most a number. Answers whether it can be. */
        boolean restrict(int left, int right, int most, long why) {
            if (most >= state[left * nodes + right]) return true;
            if (most + state[right * nodes + left] < 0) {
                clash = why | causes[right * nodes + left];
                return false;
            }
            for (int from = 0; from < nodes; from++) {
                int before = state[from * nodes + left];
                if (before >= NO_LIMIT) continue;
                long whyBefore = why | causes[from * nodes + left];
                for (int to = 0; to < nodes; to++) {
                    int after = state[right * nodes + to];
                    if (after >= NO_LIMIT) continue;
                    int sum = before + most + after;
                    if (sum < state[from * nodes + to]) {
                        state[from * nodes + to] = sum;
                        causes[from * nodes + to] = whyBefore | causes[right * nodes + to];
                    }
                }
            }
            return true;
        }

        /** Adds that two terms are not the same. Answers whether it can be. */
        private boolean part(int left, int right, long why) {
            int there = left * nodes + right;
            int back = right * nodes + left;
            if (state[there] <= 0 && state[back] <= 0) {
                clash = why | causes[there] | causes[back];
                return false;
            }
            if ((state[nodes * nodes + left] >> right & 1) != 0) return true;
            state[nodes * nodes + left] |= 1 << right;
            state[nodes * nodes + right] |= 1 << left;
            causes[nodes * nodes + there] = why;
            causes[nodes * nodes + back] = why;
            return true;
        }

        private boolean areApart(int left, int right) {
            return (state[nodes * nodes + left] >> right & 1) != 0;
        }
    }

    /**
     * Looks for numbers of the terms that keep the demands. It goes from numbers that keep what is known: if a demand
     * is not kept by them, a fact of it is tried, and then its contrary.
     */
    private static final class Search {
        private static final int CLASH = 0;
        private static final int CHANGED = 1;
        private static final int OPEN = 2;
        private static final int KEPT = 3;
        private static final int MANY = 1000;
        private static final int LAST_TOLD = 62;
        private static final int MOST_STEPS = 1000000000;

        private final Table table;
        private final Demands demands;
        private final Differences differences = new Differences();
        /** The numbers of the terms that were found last. */
        final int[] numbers = new int[Table.MOST];
        private int[] savedStates = new int[512];
        private long[] savedCauses = new long[1024];
        private int[] tried = new int[16];
        private int depth;
        private boolean changed;
        private int fewest;
        private int nextTry;

        Search(Table table, Demands demands) {
            this.table = table;
            this.demands = demands;
        }

        /** Looks for numbers that keep some of the clauses, all other demands, and one more fact or NONE. */
        boolean find(int clauses, int fact) {
            return begin(fact) && run(clauses, Table.NONE);
        }

        /**
         * Looks for numbers that keep all demands and are the found ones for the terms before one, but less for it.
         */
        boolean findLess(int clauses, int term) {
            return beginBelow(term) && run(clauses, term);
        }

        private boolean begin(int fact) {
            differences.clear(table.count);
            return fact == Fact.NONE || differences.assume(fact, 0L);
        }

        private boolean beginBelow(int last) {
            differences.clear(table.count);
            int zero = differences.zero;
            for (int term = 0; term < last; term++) {
                if (!differences.restrict(term, zero, numbers[term], 0L)) return false;
                if (!differences.restrict(zero, term, -numbers[term], 0L)) return false;
            }
            return differences.restrict(last, zero, numbers[last] - 1, 0L);
        }

        private boolean run(int clauses, int lastLow) {
            depth = 0;
            for (int step = 0; step < MOST_STEPS; step++) {
                differences.chooseNumbers(lastLow);
                int outcome = look(clauses);
                if (outcome == KEPT) {
                    System.arraycopy(differences.numbers, 0, numbers, 0, table.count);
                    return true;
                }
                if (outcome == OPEN && !descend()) outcome = CLASH;
                if (outcome == CLASH && !turnBack()) return false;
            }
            return false;
        }

        /** Goes through what the numbers do not keep, adds what is sure, and notes what can be tried. */
        private int look(int clauses) {
            changed = false;
            fewest = MANY;
            if (!partSame()) return CLASH;
            for (int demand = 0; demand < demands.count; demand++) {
                boolean leftOut = demand < demands.clauses && (clauses >> demand & 1) == 0;
                if (!leftOut && !examine(demand)) return CLASH;
            }
            if (changed) return CHANGED;
            return fewest < MANY ? OPEN : KEPT;
        }

        /** Looks after terms that have to be apart, but have the same number. Answers whether they can be apart. */
        private boolean partSame() {
            for (int left = 0; left < table.count; left++) {
                int apart = differences.apartFrom(left);
                for (int right = 0; right < left; right++) {
                    if ((apart >> right & 1) == 0 || differences.numbers[left] != differences.numbers[right]) continue;
                    if (!order(left, right) || !order(right, left)) return false;
                    if (fewest >= MANY && !changed) {
                        fewest = MANY - 1;
                        nextTry = Fact.within(left, right, -1);
                    }
                }
            }
            return true;
        }

        /** If a term that has to be apart from another one is at most this, it is less. Answers whether it can be. */
        private boolean order(int left, int right) {
            if (differences.limit(left, right) != 0) return true;
            changed = true;
            long why = differences.whyApart(left, right) | differences.whyLimit(left, right);
            return differences.restrict(left, right, -1, why);
        }

        /** Looks after a demand. Answers whether it can be kept. */
        private boolean examine(int demand) {
            int from = demand == 0 ? 0 : demands.ends[demand - 1];
            int open = 0;
            int first = Fact.NONE;
            long why = 0;
            for (int at = from; at < demands.ends[demand]; at++) {
                int fact = demands.facts[at];
                if (differences.grants(fact)) return true;
                if (differences.denies(fact)) {
                    why |= differences.whyDenied(fact);
                } else {
                    if (open == 0) first = fact;
                    open++;
                }
            }
            if (open == 0) {
                differences.clash = why;
                return false;
            }
            if (open == 1) {
                changed = true;
                return differences.assume(first, why);
            }
            if (open < fewest) {
                fewest = open;
                nextTry = first;
            }
            return true;
        }

        /** Tries a fact, and keeps what was known before. Answers whether it can be true. */
        private boolean descend() {
            int size = differences.size;
            int causeSize = differences.causeSize;
            if (savedStates.length < (depth + 1) * size) {
                savedStates = Arrays.copyOf(savedStates, 2 * (depth + 1) * size);
            }
            if (savedCauses.length < (depth + 1) * causeSize) {
                savedCauses = Arrays.copyOf(savedCauses, 2 * (depth + 1) * causeSize);
            }
            if (depth >= tried.length) tried = Arrays.copyOf(tried, 2 * depth);
            System.arraycopy(differences.state, 0, savedStates, depth * size, size);
            System.arraycopy(differences.causes, 0, savedCauses, depth * causeSize, causeSize);
            tried[depth] = nextTry;
            long why = 1L << Math.min(depth, LAST_TOLD);
            depth++;
            return differences.assume(nextTry, why);
        }

        /**
         * Goes back to the last try from which the clash comes, and takes its contrary. Answers whether there was
         * one. All tries behind a far one are told as one, so that these are gone back one by one.
         */
        private boolean turnBack() {
            int size = differences.size;
            int causeSize = differences.causeSize;
            for (int level = depth - 1; level >= 0; level--) {
                long bit = 1L << Math.min(level, LAST_TOLD);
                if ((differences.clash & bit) == 0) continue;
                depth = level;
                System.arraycopy(savedStates, level * size, differences.state, 0, size);
                System.arraycopy(savedCauses, level * causeSize, differences.causes, 0, causeSize);
                long why = level > LAST_TOLD ? differences.clash : differences.clash & ~bit;
                if (differences.assume(Fact.contrary(tried[level]), why)) return true;
            }
            return false;
        }
    }

    /** The answers about what is asserted. They are kept until that changes. */
    private static final class Answers {
        static final int GREATEST_BOUND = 400;
        private static final int NOT_KNOWN = -1;
        /** No term of an interpretation that is found has as great a number. */
        private static final int MOST_NUMBERS = 1000000;

        private final Table table;
        private final Statements statements;
        private final Demands demands;
        private final Search search;
        /** The numbers of the terms in an interpretation, and in the model as soon as it has been looked for. */
        final int[] numbers = new int[Table.MOST];
        /** The term with the lowest number in the class of each value. */
        final int[] leaders = new int[Table.MOST];
        private final int[] groups = new int[Table.MOST];
        /** The clauses of the core, and behind them the reasons of each literal, as bits. */
        private final int[] thinned = new int[1 + 2 * Statements.MOST_ATOMS];
        private boolean hasInterpretation;
        private boolean knowsInterpretation;
        private boolean knowsModel;
        private boolean knowsClasses;

        Answers(Table table, Statements statements) {
            this.table = table;
            this.statements = statements;
            demands = new Demands(table, statements);
            search = new Search(table, demands);
        }

        void forget() {
            knowsInterpretation = false;
            knowsModel = false;
            knowsClasses = false;
        }

        /** Whether what is asserted can be satisfied. All other answers may be asked for only after this. */
        boolean findInterpretation() {
            if (!knowsInterpretation) {
                Arrays.fill(thinned, NOT_KNOWN);
                demands.build();
                hasInterpretation = search.find(statements.allClauses(), Fact.NONE);
                if (hasInterpretation) takeNumbers();
                knowsInterpretation = true;
            }
            return hasInterpretation;
        }

        /** Makes the numbers of an interpretation those of the model. */
        void findModel() {
            if (knowsModel) return;
            int all = statements.allClauses();
            System.arraycopy(numbers, 0, search.numbers, 0, table.count);
            for (int term = 0; term < table.count; term++) {
                boolean less = table.isValue(term);
                for (int step = 0; step < MOST_NUMBERS && less; step++) less = search.findLess(all, term);
            }
            takeNumbers();
            knowsModel = true;
        }

        /** Whether some of the clauses, with the rules, cannot be satisfied. */
        boolean areContrary(int clauses) {
            return !search.find(clauses, Fact.NONE);
        }

        /** Whether a literal follows, if there is an interpretation. */
        boolean isImplied(int literal) {
            if (thinned[literal + 1] != NOT_KNOWN) return true;
            int denial = Fact.contrary(statements.factOf(literal));
            if (Fact.isTrueFor(denial, numbers[Fact.left(denial)] - numbers[Fact.right(denial)])) return false;
            return !search.find(statements.allClauses(), denial);
        }

        /** The reasons of a literal that follows, or the core for NONE, as bits. */
        int thinOut(int literal) {
            if (thinned[literal + 1] != NOT_KNOWN) return thinned[literal + 1];
            int denial = literal == Statements.NONE ? Fact.NONE : Fact.contrary(statements.factOf(literal));
            int rest = statements.allClauses();
            for (int clause = 0; clause < statements.clauses; clause++) {
                int fewer = rest & ~(1 << clause);
                if (!search.find(fewer, denial)) rest = fewer;
            }
            thinned[literal + 1] = rest;
            return rest;
        }

        /** The least number that a difference is at most, or a greater one than can be asked for. */
        int findBound(int first, int second) {
            int all = statements.allClauses();
            int high = GREATEST_BOUND;
            if (search.find(all, beyond(first, second, high))) return high + 1;
            int low = Math.max(numbers[first] - numbers[second], -GREATEST_BOUND);
            // Ten halvings are enough for all numbers from the least to the greatest.
            for (int step = 0; step < 16 && low < high; step++) {
                int middle = Math.floorDiv(low + high, 2);
                if (search.find(all, beyond(first, second, middle))) {
                    low = Math.max(middle + 1, search.numbers[first] - search.numbers[second]);
                } else {
                    high = middle;
                }
            }
            return high;
        }

        /** That the difference of two terms is more than a number. */
        private static int beyond(int first, int second, int most) {
            return Fact.contrary(Fact.within(first, second, most));
        }

        /** Finds the classes. Terms that some interpretation parts are in different groups. */
        void findClasses() {
            if (knowsClasses) return;
            Arrays.fill(groups, 0);
            partGroups(numbers);
            for (int term = 0; term < table.count; term++) {
                leaders[term] = table.isValue(term) ? term : Table.NONE;
                for (int other = 0; other < term && leaders[term] == term; other++) {
                    if (leaders[other] != other || groups[other] != groups[term]) continue;
                    if (search.find(statements.allClauses(), Fact.apart(other, term))) partGroups(search.numbers);
                    else leaders[term] = other;
                }
            }
            knowsClasses = true;
        }

        /** Parts the groups by the numbers of an interpretation; a group bears the number of its last term. */
        private void partGroups(int[] found) {
            for (int term = 0; term < table.count; term++) {
                int group = term;
                for (int other = term + 1; other < table.count; other++) {
                    if (groups[other] == groups[term] && found[other] == found[term]) group = other;
                }
                groups[term] = group;
            }
        }

        private void takeNumbers() {
            System.arraycopy(search.numbers, 0, numbers, 0, table.count);
        }
    }

    /** What terms, functions and arrays have in the model. */
    private static final class Model {
        private final Table table;
        private final Statements statements;
        private final int[] numbers;

        Model(Table table, Statements statements, int[] numbers) {
            this.table = table;
            this.statements = statements;
            this.numbers = numbers;
        }

        int ofFunction(int function, int first, int second) {
            for (int term = 0; term < table.count; term++) {
                if (!table.isOfFunction(term, function) || numbers[table.firsts[term]] != first) continue;
                int other = table.seconds[term];
                if (other == Table.NONE || numbers[other] == second) return numbers[term];
            }
            return 0;
        }

        int ofArray(int array, int at) {
            int stop = stopOf(array, at);
            if (table.kinds[stop] == 'w') return numbers[table.tolds[stop]];
            for (int term = 0; term < table.count; term++) {
                if (table.kinds[term] != 'r' || numbers[table.seconds[term]] != at) continue;
                if (stopOf(table.firsts[term], at) == stop) return numbers[term];
            }
            return 0;
        }

        /** The write on the way from an array to its origin that has a number for an index, or else the origin. */
        private int stopOf(int array, int at) {
            int stop = array;
            for (int step = 0; step < table.count && table.kinds[stop] == 'w'; step++) {
                if (numbers[table.seconds[stop]] == at) return stop;
                stop = table.firsts[stop];
            }
            return stop;
        }

        boolean makesTrue(int literal) {
            int fact = statements.factOf(literal);
            return Fact.isTrueFor(fact, numbers[Fact.left(fact)] - numbers[Fact.right(fact)]);
        }

        /** How many literals of a clause are true. */
        int trueIn(int clause) {
            int count = 0;
            int from = clause * Statements.LITERALS;
            for (int at = from; at < from + Statements.LITERALS; at++) {
                int literal = statements.literals[at];
                if (literal != Statements.NONE && makesTrue(literal)) count++;
            }
            return count;
        }

        boolean keepsClauses() {
            for (int clause = 0; clause < statements.clauses; clause++) {
                if (trueIn(clause) == 0) return false;
            }
            return true;
        }

        /** Whether each value of a function or an array has what the function or the array has. */
        boolean keepsTerms() {
            for (int term = 0; term < table.count; term++) {
                int first = table.firsts[term];
                int second = table.seconds[term];
                int has = numbers[term];
                if (table.kinds[term] == 'f') {
                    int argument = second == Table.NONE ? Table.NONE : numbers[second];
                    has = ofFunction(table.functions[term], numbers[first], argument);
                } else if (table.kinds[term] == 'r') {
                    has = ofArray(first, numbers[second]);
                }
                if (has != numbers[term]) return false;
            }
            return true;
        }

        boolean keepsRules() {
            for (int rule = 0; rule < statements.rules; rule++) {
                if (!keepsRule(statements.ruleKinds[rule], statements.ruleFunctions[rule])) return false;
            }
            return true;
        }

        private boolean keepsRule(char kind, int function) {
            for (int term = 0; term < table.count; term++) {
                if (!table.isOfFunction(term, function)) continue;
                if (kind == 's' && !isUndone(term)) return false;
                for (int other = 0; other < table.count; other++) {
                    if (table.isOfFunction(other, function) && !keepsFor(kind, term, other)) return false;
                }
            }
            return true;
        }

        private boolean isUndone(int term) {
            int argument = table.firsts[term];
            if (!table.isOfFunction(argument, table.functions[term])) return true;
            return numbers[term] == numbers[table.firsts[argument]];
        }

        private boolean keepsFor(char kind, int term, int other) {
            int first = numbers[table.firsts[term]];
            int otherFirst = numbers[table.firsts[other]];
            if (kind == 'i') return first == otherFirst || numbers[term] != numbers[other];
            if (kind == 'm') return first >= otherFirst || numbers[term] <= numbers[other];
            if (kind != 'c') return true;
            boolean exchanged = first == numbers[table.seconds[other]] && numbers[table.seconds[term]] == otherFirst;
            return !exchanged || numbers[term] == numbers[other];
        }
    }
}
