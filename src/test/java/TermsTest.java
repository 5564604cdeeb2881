import java.util.NoSuchElementException;

/** Promises 1 to 11: a new object, terms and atoms. */
public final class TermsTest {
    private static final Class<IllegalStateException> STATE = IllegalStateException.class;
    private static final Class<IllegalArgumentException> ARGUMENT = IllegalArgumentException.class;
    private static final Class<NoSuchElementException> ELEMENT = NoSuchElementException.class;

    public static void main(String[] args) {
        newObject();
        constant();
        array();
        apply();
        read();
        write();
        terms();
        kindOf();
        equal();
        atMost();
        atoms();
        Due.end();
    }

    /** An object with an array 0 and thirteen constant values. */
    private static Congruary full() {
        Congruary x = new Congruary();
        x.array();
        for (int n = 1; n < 14; n++) x.constant();
        return x;
    }

    /** An object with an array 0, constant values 1 to 12, and one more term left. */
    private static Congruary almostFull() {
        Congruary x = new Congruary();
        x.array();
        for (int n = 1; n < 13; n++) x.constant();
        return x;
    }

    private static void newObject() {
        Congruary x = new Congruary();
        Due.is("terms", x.terms(), 0);
        Due.is("atoms", x.atoms(), 0);
        Due.is("clauses", x.clauses(), 0);
        Due.is("check", x.check(), true);
        Due.is("classes", x.classes(), 0);
        Due.is("trueLiterals", x.trueLiterals(), 0L);
        Due.is("isSound", x.isSound(), true);
        Due.fails("pop", STATE, x::pop);
        Due.fails("kindOf(0)", ELEMENT, () -> x.kindOf(0));
        Due.is("rule", x.rule('i', 0), 1);
        Congruary other = new Congruary();
        other.constant();
        Due.is("terms of the first", x.terms(), 0);
    }

    private static void constant() {
        Congruary x = new Congruary();
        for (int n = 0; n < 14; n++) Due.is("constant", x.constant(), n);
        Due.is("kindOf", x.kindOf(13), 'c');
        Due.fails("15th constant", STATE, x::constant);
        Due.is("terms", x.terms(), 14);
        Due.is("two constants are two values", x.classes(), 14);
    }

    private static void array() {
        Congruary x = new Congruary();
        for (int n = 0; n < 14; n++) Due.is("array", x.array(), n);
        Due.is("kindOf", x.kindOf(13), 'a');
        Due.fails("15th array", STATE, x::array);
        Due.is("terms", x.terms(), 14);
        Due.is("classes", x.classes(), 0);
    }

    private static void apply() {
        Congruary x = new Congruary();
        x.array();
        x.constant();
        x.constant();
        Due.is("f(1)", x.apply(0, 1, -1), 3);
        Due.is("g(1)", x.apply(1, 1, -1), 4);
        Due.is("f(2)", x.apply(0, 2, -1), 5);
        Due.is("f(1) again", x.apply(0, 1, -1), 3);
        Due.is("h(1, 2)", x.apply(2, 1, 2), 6);
        Due.is("h(2, 1)", x.apply(2, 2, 1), 7);
        Due.is("k(1, 2)", x.apply(3, 1, 2), 8);
        Due.is("h(1, 2) again", x.apply(2, 1, 2), 6);
        Due.is("h(1, 1)", x.apply(2, 1, 1), 9);
        Due.is("f(f(1))", x.apply(0, 3, -1), 10);
        int same = x.equal(1, 2);
        int follows = x.equal(3, 5);
        int exchanged = x.equal(6, 7);
        int other = x.equal(3, 4);
        x.clause(2 * same, -1, -1);
        Due.is("f(1) = f(2) follows", x.follows(2 * follows), true);
        Due.is("h(1, 2) = h(2, 1) follows", x.follows(2 * exchanged), true);
        Due.is("f(1) = g(1) follows", x.follows(2 * other), false);
        applyWrongly(x);
    }

    private static void applyWrongly(Congruary x) {
        Due.fails("function -1", ARGUMENT, () -> x.apply(-1, 1, -1));
        Due.fails("function 4", ARGUMENT, () -> x.apply(4, 1, 1));
        Due.fails("function 4 of no term", ARGUMENT, () -> x.apply(4, 99, -1));
        Due.fails("a second argument for one", ARGUMENT, () -> x.apply(0, 1, 1));
        Due.fails("a second argument for one, of no term", ARGUMENT, () -> x.apply(1, 99, 0));
        Due.fails("an argument -2 for one", ARGUMENT, () -> x.apply(1, 1, -2));
        Due.fails("f of an array", ELEMENT, () -> x.apply(0, 0, -1));
        Due.fails("f of no term", ELEMENT, () -> x.apply(0, 11, -1));
        Due.fails("f of -1", ELEMENT, () -> x.apply(0, -1, -1));
        Due.fails("h without a second", ELEMENT, () -> x.apply(2, 1, -1));
        Due.fails("h of an array", ELEMENT, () -> x.apply(3, 1, 0));
        Due.fails("h of an array first", ELEMENT, () -> x.apply(3, 0, 1));
        Due.is("terms", x.terms(), 11);
        Congruary full = full();
        Due.fails("15th", STATE, () -> full.apply(0, 1, -1));
        Due.fails("15th of an array", ELEMENT, () -> full.apply(0, 0, -1));
        Due.fails("15th of no function", ARGUMENT, () -> full.apply(9, 0, -1));
        Due.is("terms", full.terms(), 14);
        Congruary almost = almostFull();
        Due.is("14th", almost.apply(0, 1, -1), 13);
        Due.is("14th again", almost.apply(0, 1, -1), 13);
    }

    private static void read() {
        Congruary x = new Congruary();
        x.array();
        x.array();
        x.constant();
        x.constant();
        Due.is("read(0, 2)", x.read(0, 2), 4);
        Due.is("read(1, 2)", x.read(1, 2), 5);
        Due.is("read(0, 3)", x.read(0, 3), 6);
        Due.is("read(0, 2) again", x.read(0, 2), 4);
        Due.is("read(0, 4)", x.read(0, 4), 7);
        int same = x.equal(2, 3);
        int entries = x.equal(4, 6);
        int others = x.equal(4, 5);
        x.clause(2 * same, -1, -1);
        Due.is("entries for the same index are the same", x.follows(2 * entries), true);
        Due.is("entries of two arrays are", x.follows(2 * others), false);
        Due.fails("read of a value", ELEMENT, () -> x.read(2, 2));
        Due.fails("read at an array", ELEMENT, () -> x.read(0, 0));
        Due.fails("read of no term", ELEMENT, () -> x.read(8, 2));
        Due.fails("read of -1", ELEMENT, () -> x.read(-1, 2));
        Due.fails("read at no term", ELEMENT, () -> x.read(0, 8));
        Due.fails("read at -1", ELEMENT, () -> x.read(0, -1));
        Due.is("terms", x.terms(), 8);
        Congruary full = full();
        Due.fails("15th", STATE, () -> full.read(0, 1));
        Due.fails("15th at an array", ELEMENT, () -> full.read(0, 0));
        Congruary almost = almostFull();
        Due.is("14th", almost.read(0, 1), 13);
        Due.is("14th again", almost.read(0, 1), 13);
    }

    private static void write() {
        Congruary x = new Congruary();
        x.array();
        x.constant();
        x.constant();
        x.constant();
        Due.is("write(0, 1, 2)", x.write(0, 1, 2), 4);
        Due.is("write(0, 2, 1)", x.write(0, 2, 1), 5);
        Due.is("write(0, 1, 3)", x.write(0, 1, 3), 6);
        Due.is("write(0, 1, 2) again", x.write(0, 1, 2), 4);
        Due.is("write(4, 3, 3)", x.write(4, 3, 3), 7);
        int at = x.read(4, 1);
        int told = x.equal(at, 2);
        Due.is("what is told follows", x.follows(2 * told), true);
        Due.is("it has no reasons", x.reasons(2 * told), 0);
        int deep = x.read(7, 1);
        int kept = x.equal(deep, 2);
        int apart = x.equal(1, 3);
        Due.is("it may be written over", x.follows(2 * kept), false);
        x.clause(2 * apart + 1, -1, -1);
        Due.is("it is kept for another index", x.follows(2 * kept), true);
        writeWrongly(x);
    }

    private static void writeWrongly(Congruary x) {
        Due.fails("write of a value", ELEMENT, () -> x.write(1, 1, 1));
        Due.fails("write at an array", ELEMENT, () -> x.write(0, 0, 1));
        Due.fails("write of an array for a value", ELEMENT, () -> x.write(0, 1, 4));
        Due.fails("write of no term", ELEMENT, () -> x.write(10, 1, 1));
        Due.fails("write at no term", ELEMENT, () -> x.write(0, 10, 1));
        Due.fails("write with no term", ELEMENT, () -> x.write(0, 1, -1));
        Due.is("terms", x.terms(), 10);
        Congruary full = full();
        Due.fails("15th", STATE, () -> full.write(0, 1, 1));
        Due.fails("15th of a value", ELEMENT, () -> full.write(1, 1, 1));
        Congruary almost = almostFull();
        Due.is("14th", almost.write(0, 1, 2), 13);
        Due.is("14th again", almost.write(0, 1, 2), 13);
        Due.fails("15th with the same parts but one", STATE, () -> almost.write(0, 1, 3));
    }

    private static void terms() {
        Congruary x = new Congruary();
        Due.is("terms", x.terms(), 0);
        x.constant();
        x.array();
        x.read(1, 0);
        x.read(1, 0);
        Due.is("terms", x.terms(), 3);
        x.push();
        x.constant();
        Due.is("terms", x.terms(), 4);
        x.pop();
        Due.is("terms", x.terms(), 3);
        Due.is("numbers are given anew", x.array(), 3);
        Due.is("kindOf(3)", x.kindOf(3), 'a');
    }

    private static void kindOf() {
        Congruary x = new Congruary();
        x.array();
        x.constant();
        x.apply(2, 1, 1);
        x.read(0, 1);
        x.write(0, 1, 1);
        Due.is("array", x.kindOf(0), 'a');
        Due.is("constant", x.kindOf(1), 'c');
        Due.is("value of a function", x.kindOf(2), 'f');
        Due.is("value of an array", x.kindOf(3), 'r');
        Due.is("array but for an index", x.kindOf(4), 'w');
        Due.fails("kindOf(5)", ELEMENT, () -> x.kindOf(5));
        Due.fails("kindOf(-1)", ELEMENT, () -> x.kindOf(-1));
        Due.fails("kindOf(14)", ELEMENT, () -> x.kindOf(14));
        Due.fails("kindOf(least)", ELEMENT, () -> x.kindOf(Integer.MIN_VALUE));
    }

    private static void equal() {
        Congruary x = new Congruary();
        x.array();
        x.constant();
        x.constant();
        Due.is("equal(1, 2)", x.equal(1, 2), 0);
        Due.is("equal(2, 1)", x.equal(2, 1), 1);
        Due.is("equal(1, 2) again", x.equal(1, 2), 0);
        Due.is("equal(1, 1)", x.equal(1, 1), 2);
        Due.is("equal(1, 1) follows", x.follows(4), true);
        Due.is("its contrary does", x.follows(5), false);
        Due.fails("of an array", ELEMENT, () -> x.equal(0, 1));
        Due.fails("and an array", ELEMENT, () -> x.equal(1, 0));
        Due.fails("of no term", ELEMENT, () -> x.equal(3, 1));
        Due.fails("and no term", ELEMENT, () -> x.equal(1, -1));
        Due.is("atoms", x.atoms(), 3);
        for (int most = -10; most <= 10; most++) x.atMost(1, 2, most);
        Due.is("atoms", x.atoms(), 24);
        Due.is("equal(2, 1) once more", x.equal(2, 1), 1);
        Due.fails("25th", STATE, () -> x.equal(2, 2));
        Due.fails("25th of an array", ELEMENT, () -> x.equal(0, 2));
        Due.is("atoms", x.atoms(), 24);
    }

    private static void atMost() {
        Congruary x = new Congruary();
        x.array();
        x.constant();
        x.constant();
        Due.is("atMost(1, 2, 0)", x.atMost(1, 2, 0), 0);
        Due.is("atMost(2, 1, 0)", x.atMost(2, 1, 0), 1);
        Due.is("atMost(1, 2, 20)", x.atMost(1, 2, 20), 2);
        Due.is("atMost(1, 2, -20)", x.atMost(1, 2, -20), 3);
        Due.is("equal(1, 2)", x.equal(1, 2), 4);
        Due.is("atMost(1, 2, 0) again", x.atMost(1, 2, 0), 0);
        Due.is("atMost(1, 1, 0)", x.atMost(1, 1, 0), 5);
        Due.is("atMost(1, 1, -1)", x.atMost(1, 1, -1), 6);
        Due.is("at most 0 of the same follows", x.follows(10), true);
        Due.is("at most -1 of the same cannot be", x.follows(13), true);
        x.clause(6, -1, -1);
        Due.is("the second is 20 more", x.valueOf(2), 20);
        Due.fails("of an array", ELEMENT, () -> x.atMost(0, 1, 21));
        Due.fails("and an array", ELEMENT, () -> x.atMost(1, 0, -21));
        Due.fails("and no term", ELEMENT, () -> x.atMost(1, 3, 0));
        Due.fails("of -1", ELEMENT, () -> x.atMost(-1, 1, 0));
        Due.fails("at most 21", ARGUMENT, () -> x.atMost(1, 2, 21));
        Due.fails("at most -21", ARGUMENT, () -> x.atMost(1, 2, -21));
        Due.fails("at most the least", ARGUMENT, () -> x.atMost(1, 2, Integer.MIN_VALUE));
        Due.is("atoms", x.atoms(), 7);
        for (int most = 1; most <= 17; most++) x.atMost(2, 1, most);
        Due.is("atoms", x.atoms(), 24);
        Due.is("atMost(2, 1, 17) again", x.atMost(2, 1, 17), 23);
        Due.fails("25th", STATE, () -> x.atMost(2, 1, 18));
        Due.fails("25th out of range", ARGUMENT, () -> x.atMost(2, 1, 21));
        Due.is("atoms", x.atoms(), 24);
    }

    private static void atoms() {
        Congruary x = new Congruary();
        x.constant();
        Due.is("atoms", x.atoms(), 0);
        x.equal(0, 0);
        x.equal(0, 0);
        Due.is("atoms", x.atoms(), 1);
        x.push();
        x.atMost(0, 0, 1);
        x.atMost(0, 0, 2);
        Due.is("atoms", x.atoms(), 3);
        x.pop();
        Due.is("atoms", x.atoms(), 1);
        Due.is("numbers are given anew", x.atMost(0, 0, 2), 1);
    }
}
