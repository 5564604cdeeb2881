import java.util.NoSuchElementException;

/** Promises 26 to 33: the model and the figures. */
public final class ModelTest {
    private static final Class<IllegalStateException> STATE = IllegalStateException.class;
    private static final Class<IllegalArgumentException> ARGUMENT = IllegalArgumentException.class;
    private static final Class<NoSuchElementException> ELEMENT = NoSuchElementException.class;

    public static void main(String[] args) {
        valueOf();
        valueOfFirstTerms();
        functionAt();
        entry();
        isTrue();
        trueLiterals();
        coreShare();
        meanValue();
        isSound();
        Due.end();
    }

    private static Congruary withoutModel() {
        Congruary x = new Congruary();
        x.constant();
        x.array();
        x.equal(0, 0);
        x.clause(1, -1, -1);
        return x;
    }

    private static void valueOf() {
        Congruary x = new Congruary();
        x.constant();
        x.constant();
        x.array();
        x.constant();
        Due.is("without clauses", x.valueOf(3), 0);
        x.clause(2 * x.atMost(0, 1, -3), -1, -1);
        x.clause(2 * x.atMost(1, 3, 2), -1, -1);
        Due.is("valueOf(0)", x.valueOf(0), 0);
        Due.is("valueOf(1)", x.valueOf(1), 3);
        Due.is("valueOf(3)", x.valueOf(3), 1);
        x.clause(2 * x.equal(3, 1) + 1, -1, -1);
        x.clause(2 * x.atMost(3, 0, 0) + 1, -1, -1);
        Due.is("apart already", x.valueOf(3), 1);
        x.clause(2 * x.atMost(3, 0, 1) + 1, -1, -1);
        x.clause(2 * x.atMost(3, 0, 2) + 1, -1, -1);
        Due.is("the next that is apart", x.valueOf(3), 4);
        Due.fails("of an array", ELEMENT, () -> x.valueOf(2));
        Due.fails("of no term", ELEMENT, () -> x.valueOf(4));
        Due.fails("of -1", ELEMENT, () -> x.valueOf(-1));
        Congruary none = withoutModel();
        Due.fails("there is no model", STATE, () -> none.valueOf(0));
        Due.fails("there is no model, of an array", ELEMENT, () -> none.valueOf(1));
    }

    private static void valueOfFirstTerms() {
        Congruary x = new Congruary();
        for (int n = 0; n < 3; n++) x.constant();
        x.clause(2 * x.equal(0, 1) + 1, -1, -1);
        Due.is("the first has the least", x.valueOf(0), 0);
        Due.is("the second has to be apart", x.valueOf(1), 1);
        x.clause(2 * x.atMost(1, 0, -1), 2 * x.atMost(0, 2, -9), -1);
        Due.is("the first is still the least", x.valueOf(0), 0);
        Due.is("the second too", x.valueOf(1), 1);
        Due.is("the third pays for both", x.valueOf(2), 9);
        x.clause(2 * x.atMost(2, 0, 8), -1, -1);
        Due.is("the second is less", x.valueOf(0), 1);
        Due.is("the second has the least", x.valueOf(1), 0);
        Due.is("the third too", x.valueOf(2), 0);
    }

    private static void functionAt() {
        Congruary x = new Congruary();
        x.constant();
        x.constant();
        x.apply(0, 1, -1);
        x.apply(3, 0, 1);
        x.clause(2 * x.atMost(0, 1, -2), -1, -1);
        x.clause(2 * x.atMost(1, 2, -3), -1, -1);
        x.clause(2 * x.atMost(2, 3, -4), -1, -1);
        Due.is("f(2)", x.functionAt(0, 2, -1), 5);
        Due.is("f(2) whatever is second", x.functionAt(0, 2, 77), 5);
        Due.is("f(0)", x.functionAt(0, 0, -1), 0);
        Due.is("f(-1)", x.functionAt(0, -1, -1), 0);
        Due.is("g(2)", x.functionAt(1, 2, -1), 0);
        Due.is("k(0, 2)", x.functionAt(3, 0, 2), 9);
        Due.is("k(2, 0)", x.functionAt(3, 2, 0), 0);
        Due.is("h(0, 2)", x.functionAt(2, 0, 2), 0);
        x.rule('c', 3);
        Due.is("k(2, 0) whatever a rule tells", x.functionAt(3, 2, 0), 0);
        Due.fails("function 4", ARGUMENT, () -> x.functionAt(4, 0, 0));
        Due.fails("function -1", ARGUMENT, () -> x.functionAt(-1, 0, 0));
        Congruary none = withoutModel();
        Due.fails("there is no model", STATE, () -> none.functionAt(0, 0, 0));
        Due.fails("there is no model for no function", ARGUMENT, () -> none.functionAt(4, 0, 0));
    }

    private static void entry() {
        Congruary x = new Congruary();
        x.array();
        x.constant();
        x.constant();
        x.constant();
        x.write(0, 1, 3);
        x.write(4, 2, 1);
        int through = x.read(5, 3);
        x.array();
        x.clause(2 * x.atMost(1, 2, -1), -1, -1);
        x.clause(2 * x.atMost(2, 3, -1), -1, -1);
        x.clause(2 * x.atMost(3, through, -5), -1, -1);
        Due.is("valueOf(through)", x.valueOf(through), 7);
        Due.is("what came through two writes", x.entry(0, 2), 7);
        Due.is("by one write", x.entry(4, 2), 7);
        Due.is("by both", x.entry(5, 2), 7);
        Due.is("told by the first", x.entry(4, 0), 2);
        Due.is("seen through the second", x.entry(5, 0), 2);
        Due.is("not told to the origin", x.entry(0, 0), 0);
        Due.is("told by the second", x.entry(5, 1), 0);
        Due.is("of no index", x.entry(0, 99), 0);
        Due.is("of no index, through both", x.entry(5, -3), 0);
        Due.is("of another array", x.entry(7, 2), 0);
        Due.fails("of a value", ELEMENT, () -> x.entry(1, 0));
        Due.fails("of no term", ELEMENT, () -> x.entry(8, 0));
        Due.fails("of -1", ELEMENT, () -> x.entry(-1, 0));
        Congruary none = withoutModel();
        Due.fails("there is no model", STATE, () -> none.entry(1, 0));
        Due.fails("there is no model, of a value", ELEMENT, () -> none.entry(0, 0));
        Congruary covered = new Congruary();
        covered.array();
        covered.constant();
        covered.constant();
        covered.write(0, 1, 2);
        covered.read(3, 1);
        covered.clause(2 * covered.atMost(1, 2, -6), -1, -1);
        Due.is("what is told is not had by the origin", covered.entry(0, 0), 0);
        Due.is("but by the other", covered.entry(3, 0), 6);
    }

    private static void isTrue() {
        Congruary x = new Congruary();
        x.constant();
        x.constant();
        x.equal(0, 1);
        x.atMost(0, 1, -1);
        Due.is("equal", x.isTrue(0), true);
        Due.is("its contrary", x.isTrue(1), false);
        Due.is("less", x.isTrue(2), false);
        Due.is("its contrary", x.isTrue(3), true);
        x.clause(1, -1, -1);
        Due.is("equal", x.isTrue(0), false);
        Due.is("less", x.isTrue(2), true);
        Due.fails("isTrue(4)", ELEMENT, () -> x.isTrue(4));
        Due.fails("isTrue(-1)", ELEMENT, () -> x.isTrue(-1));
        Congruary none = withoutModel();
        Due.fails("there is no model", STATE, () -> none.isTrue(0));
        Due.fails("there is no model, of no atom", ELEMENT, () -> none.isTrue(2));
    }

    private static void trueLiterals() {
        Congruary x = new Congruary();
        x.constant();
        x.constant();
        x.equal(0, 1);
        x.atMost(0, 1, -1);
        Due.is("without clauses", x.trueLiterals(), 0L);
        x.clause(1, 2, 3);
        Due.is("one of three", x.trueLiterals(), 1L);
        x.clause(0, 0, 1);
        Due.is("one that is twice", x.trueLiterals(), 3L);
        x.clause(2, -1, -1);
        Due.is("the model changes", x.trueLiterals(), 4L);
        x.clause(1, -1, 2);
        Due.is("a third without a second", x.trueLiterals(), 6L);
        Due.fails("there is no model", STATE, () -> withoutModel().trueLiterals());
    }

    private static void coreShare() {
        Congruary x = new Congruary();
        x.constant();
        x.equal(0, 0);
        Due.fails("there is no core", STATE, x::coreShare);
        x.clause(0, -1, -1);
        x.clause(1, -1, -1);
        x.clause(0, 1, -1);
        Due.is("a third", x.coreShare(), 1f / 3f);
        Due.is("all", withoutModel().coreShare(), 1f);
    }

    private static void meanValue() {
        Congruary x = new Congruary();
        Due.fails("no values", ArithmeticException.class, x::meanValue);
        x.array();
        Due.fails("no values but an array", ArithmeticException.class, x::meanValue);
        x.constant();
        x.constant();
        x.constant();
        Due.is("zeroes", x.meanValue(), 0.0);
        x.clause(2 * x.atMost(1, 2, -1), -1, -1);
        x.clause(2 * x.atMost(2, 3, -3), -1, -1);
        Due.is("of 0, 1 and 4", x.meanValue(), 5.0 / 3.0);
        Due.fails("there is no model", STATE, () -> withoutModel().meanValue());
    }

    private static void isSound() {
        Congruary x = new Congruary();
        Due.is("without terms", x.isSound(), true);
        x.constant();
        x.constant();
        x.apply(0, 0, -1);
        x.apply(0, 2, -1);
        x.apply(2, 0, 1);
        x.apply(2, 1, 0);
        x.array();
        x.write(6, 0, 1);
        x.read(7, 1);
        for (String rule : new String[] {"i0", "s0", "m0", "c2"}) x.rule(rule.charAt(0), rule.charAt(1) - '0');
        x.clause(2 * x.equal(0, 2) + 1, 2 * x.equal(8, 1) + 1, -1);
        Due.is("with a model", x.isSound(), true);
        x.clause(2 * x.atMost(4, 5, -1), -1, -1);
        Due.is("check", x.check(), false);
        Due.is("with a core", x.isSound(), true);
        Due.is("without a model", withoutModel().isSound(), true);
    }
}
