import java.util.NoSuchElementException;

/** An object with nothing told: what each call of the face answers on it; and one with little told. */
public final class EmptyTest {
    private static final Class<IllegalStateException> STATE = IllegalStateException.class;
    private static final Class<IllegalArgumentException> ARGUMENT = IllegalArgumentException.class;
    private static final Class<NoSuchElementException> ELEMENT = NoSuchElementException.class;
    private static final Class<ArithmeticException> ARITHMETIC = ArithmeticException.class;

    public static void main(String[] args) {
        answers(new Congruary());
        refusals(new Congruary());
        firsts();
        Congruary popped = new Congruary();
        fill(popped);
        answers(popped);
        refusals(popped);
        rulesAlone();
        arraysAlone();
        clausesOfOneTerm();
        Due.end();
    }

    /** Tells something of each kind within a frame, and takes it away. */
    private static void fill(Congruary x) {
        Due.is("push", x.push(), 1);
        x.array();
        x.constant();
        x.apply(0, 1, -1);
        x.read(0, 2);
        x.write(0, 1, 2);
        x.rule('i', 0);
        x.clause(2 * x.equal(1, 3) + 1, -1, -1);
        Due.is("check", x.check(), true);
        Due.is("valueOf", x.valueOf(3), 1);
        Due.is("pop", x.pop(), 0);
    }

    private static void answers(Congruary x) {
        Due.is("terms", x.terms(), 0);
        Due.is("atoms", x.atoms(), 0);
        Due.is("clauses", x.clauses(), 0);
        Due.is("check", x.check(), true);
        Due.is("classes", x.classes(), 0);
        Due.is("trueLiterals", x.trueLiterals(), 0L);
        Due.is("isSound", x.isSound(), true);
        Due.fails("meanValue", ARITHMETIC, x::meanValue);
        for (int n = 0; n < 4; n++) Due.is("functionAt " + n, x.functionAt(n, 0, 0), 0);
        Due.is("functionAt of the least", x.functionAt(3, Integer.MIN_VALUE, Integer.MIN_VALUE), 0);
        Due.is("functionAt of the greatest", x.functionAt(0, Integer.MAX_VALUE, Integer.MAX_VALUE), 0);
    }

    private static void refusals(Congruary x) {
        Due.fails("apply", ELEMENT, () -> x.apply(0, 0, -1));
        Due.fails("apply to two", ELEMENT, () -> x.apply(2, 0, 0));
        Due.fails("apply with two", ARGUMENT, () -> x.apply(0, 0, 0));
        Due.fails("apply 4", ARGUMENT, () -> x.apply(4, 0, 0));
        Due.fails("read", ELEMENT, () -> x.read(0, 0));
        Due.fails("write", ELEMENT, () -> x.write(0, 0, 0));
        Due.fails("kindOf", ELEMENT, () -> x.kindOf(0));
        Due.fails("equal", ELEMENT, () -> x.equal(0, 0));
        Due.fails("atMost", ELEMENT, () -> x.atMost(0, 0, 0));
        Due.fails("atMost out of range", ELEMENT, () -> x.atMost(0, 0, 21));
        Due.fails("clause", ELEMENT, () -> x.clause(0, -1, -1));
        Due.fails("clause of nothing", ELEMENT, () -> x.clause(-1, -1, -1));
        Due.fails("rule", ARGUMENT, () -> x.rule('a', 0));
        Due.fails("pop", STATE, x::pop);
        Due.fails("core", STATE, x::core);
        Due.fails("coreAt", STATE, () -> x.coreAt(0));
        Due.fails("coreShare", STATE, x::coreShare);
        Due.fails("follows", ELEMENT, () -> x.follows(0));
        Due.fails("reasons", ELEMENT, () -> x.reasons(0));
        Due.fails("reasonAt", ELEMENT, () -> x.reasonAt(0, 0));
        Due.fails("bound", ELEMENT, () -> x.bound(0, 0));
        Due.fails("classOf", ELEMENT, () -> x.classOf(0));
        Due.fails("valueOf", ELEMENT, () -> x.valueOf(0));
        Due.fails("functionAt 4", ARGUMENT, () -> x.functionAt(4, 0, 0));
        Due.fails("entry", ELEMENT, () -> x.entry(0, 0));
        Due.fails("isTrue", ELEMENT, () -> x.isTrue(0));
        Due.is("terms", x.terms(), 0);
    }

    /** All numbers begin at 0; rules and frames are counted from 1. */
    private static void firsts() {
        Due.is("constant", new Congruary().constant(), 0);
        Due.is("array", new Congruary().array(), 0);
        Due.is("rule", new Congruary().rule('c', 3), 1);
        Due.is("push", new Congruary().push(), 1);
        Congruary x = new Congruary();
        x.constant();
        Due.is("atMost", x.atMost(0, 0, 0), 0);
        Due.is("clause", x.clause(0, -1, -1), 0);
        Congruary y = new Congruary();
        y.constant();
        Due.is("equal", y.equal(0, 0), 0);
        Due.is("an object has nothing of another one", new Congruary().terms(), 0);
    }

    /** Rules without terms, and with terms that they are not about: without clauses all can be satisfied. */
    private static void rulesAlone() {
        Congruary x = new Congruary();
        x.rule('i', 0);
        x.rule('s', 0);
        x.rule('m', 0);
        x.rule('c', 2);
        answers(x);
        x.constant();
        x.constant();
        Due.is("check", x.check(), true);
        Due.is("classes", x.classes(), 2);
        x.apply(0, 0, -1);
        x.apply(2, 0, 1);
        Due.is("one value of each", x.check(), true);
        Due.is("is bound by no rule", x.classes(), 4);
        Due.is("isSound", x.isSound(), true);
        Due.fails("there is no core", STATE, x::core);
    }

    private static void arraysAlone() {
        Congruary x = new Congruary();
        x.array();
        x.array();
        Due.is("check", x.check(), true);
        Due.is("classes", x.classes(), 0);
        Due.fails("meanValue", ARITHMETIC, x::meanValue);
        Due.is("entry", x.entry(1, 0), 0);
        Due.is("entry of the least", x.entry(0, Integer.MIN_VALUE), 0);
        Due.is("entry of the greatest", x.entry(0, Integer.MAX_VALUE), 0);
        Due.fails("entry of no term", ELEMENT, () -> x.entry(2, 0));
        Due.fails("an array is no value", ELEMENT, () -> x.valueOf(0));
        Due.fails("an array is in no class", ELEMENT, () -> x.classOf(0));
        Due.fails("an array is no argument", ELEMENT, () -> x.apply(0, 0, -1));
        Due.fails("an array is not equal to itself", ELEMENT, () -> x.equal(0, 0));
        x.constant();
        Due.is("meanValue of one", x.meanValue(), 0.0);
    }

    /** A value alone is equal to itself, and its difference from itself is 0. */
    private static void clausesOfOneTerm() {
        Congruary x = new Congruary();
        x.constant();
        int same = 2 * x.equal(0, 0);
        int none = 2 * x.atMost(0, 0, 0);
        int less = 2 * x.atMost(0, 0, -1);
        int more = 2 * x.atMost(0, 0, 1);
        for (int literal : new int[] {same, none, less + 1, more}) {
            Due.is("follows " + literal, x.follows(literal), true);
            Due.is("reasons " + literal, x.reasons(literal), 0);
            Due.is("isTrue " + literal, x.isTrue(literal), true);
            Due.is("its contrary does not follow " + literal, x.follows(literal ^ 1), false);
            Due.fails("its contrary has no reasons " + literal, STATE, () -> x.reasons(literal ^ 1));
            Due.is("its contrary is not true " + literal, x.isTrue(literal ^ 1), false);
        }
        Due.is("bound", x.bound(0, 0), 0);
        Due.is("classOf", x.classOf(0), 0);
        Due.is("clause", x.clause(less, same + 1, -1), 0);
        Due.is("check", x.check(), false);
        Due.is("core", x.core(), 1);
        Due.is("coreShare", x.coreShare(), 1f);
        Due.is("isSound", x.isSound(), true);
        Due.is("all follows", x.follows(less), true);
        Due.is("for that clause", x.reasons(less), 1);
        Due.is("what always is true needs none", x.reasons(same), 0);
        Due.is("its contrary needs it", x.reasonAt(same + 1, 0), 0);
    }
}
