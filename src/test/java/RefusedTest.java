import java.util.NoSuchElementException;

/**
 * "A method that throws an exception changes nothing. If several exceptions apply, the exception that is listed first
 * is thrown." An object that has refused calls answers as one that was never asked them.
 */
public final class RefusedTest {
    private static final Class<IllegalStateException> STATE = IllegalStateException.class;
    private static final Class<IllegalArgumentException> ARGUMENT = IllegalArgumentException.class;
    private static final Class<NoSuchElementException> ELEMENT = NoSuchElementException.class;
    private static final Class<IndexOutOfBoundsException> INDEX = IndexOutOfBoundsException.class;
    private static final Class<UnsupportedOperationException> FAR = UnsupportedOperationException.class;

    public static void main(String[] args) {
        ofNothing();
        withModel();
        withoutModel();
        fullOfTerms();
        fullOfStatements();
        changesWhatWasAskedBefore();
        Due.end();
    }

    private static void areSame(String state, Congruary refusing, Congruary other) {
        Due.is(state + ", after calls that were refused", Snapshot.of(refusing), Snapshot.of(other));
    }

    private static void ofNothing() {
        Congruary x = new Congruary();
        refuseWrongTerms(x, 0, 0, 0);
        refuseWrongStatements(x, 0, 0);
        Due.fails("pop", STATE, x::pop);
        areSame("nothing is told", x, new Congruary());
        Due.is("no frame was pushed", x.push(), 1);
        Due.is("no rule was told", x.rule('i', 0), 1);
    }

    /** An array 0, values 1 to 3, f(1) = 4, read(0, 2) = 5, write(0, 1, 2) = 6; 2 is at least 2 more than 1. */
    private static Congruary toldSome() {
        Congruary x = new Congruary();
        x.array();
        for (int n = 0; n < 3; n++) x.constant();
        x.apply(0, 1, -1);
        x.read(0, 2);
        x.write(0, 1, 2);
        x.rule('s', 0);
        x.clause(2 * x.atMost(1, 2, -2), -1, -1);
        x.clause(2 * x.equal(5, 4), 2 * x.equal(4, 2), -1);
        x.push();
        x.clause(2 * x.atMost(2, 3, 0), -1, -1);
        return x;
    }

    /** The same, but that what is told of 1 and 2 is contradicted. */
    private static Congruary toldContraries() {
        Congruary x = toldSome();
        x.clause(1, 1, -1);
        return x;
    }

    private static void withModel() {
        Congruary x = toldSome();
        Due.is("check", x.check(), true);
        refuseWrongTerms(x, 7, 0, 1);
        refuseWrongStatements(x, 4, 1);
        refuseWithModel(x);
        areSame("with a model", x, toldSome());
        Due.is("no rule was told", x.rule('i', 0), 2);
        Due.is("no frame was pushed or popped", x.pop(), 2);
        Due.fails("it was the only one", STATE, x::pop);
    }

    private static void withoutModel() {
        Congruary x = toldContraries();
        Due.is("check", x.check(), false);
        refuseWrongTerms(x, 7, 0, 1);
        refuseWrongStatements(x, 4, 1);
        refuseWithoutModel(x);
        areSame("without a model", x, toldContraries());
        Due.is("no rule was told", x.rule('i', 0), 2);
        Due.is("no frame was pushed or popped", x.pop(), 2);
        Due.fails("it was the only one", STATE, x::pop);
    }

    /** Refuses calls of terms: one that is not there, one that is an array and one that is a value. */
    private static void refuseWrongTerms(Congruary x, int none, int array, int value) {
        Due.fails("apply -1", ARGUMENT, () -> x.apply(-1, none, none));
        Due.fails("apply 4", ARGUMENT, () -> x.apply(4, value, value));
        Due.fails("apply 0 with two", ARGUMENT, () -> x.apply(0, none, none));
        Due.fails("apply 1 with two", ARGUMENT, () -> x.apply(1, value, value));
        Due.fails("apply 0 of none", ELEMENT, () -> x.apply(0, none, -1));
        Due.fails("apply 0 of an array", ELEMENT, () -> x.apply(0, array, -1));
        Due.fails("apply 3 of none", ELEMENT, () -> x.apply(3, none, value));
        Due.fails("apply 3 and none", ELEMENT, () -> x.apply(3, value, none));
        Due.fails("apply 2 and -1", ELEMENT, () -> x.apply(2, value, -1));
        Due.fails("apply 2 and an array", ELEMENT, () -> x.apply(2, value, array));
        Due.fails("read of a value", ELEMENT, () -> x.read(value, value));
        Due.fails("read at an array", ELEMENT, () -> x.read(array, array));
        Due.fails("read of none", ELEMENT, () -> x.read(none, value));
        Due.fails("read at none", ELEMENT, () -> x.read(array, none));
        Due.fails("write of a value", ELEMENT, () -> x.write(value, value, value));
        Due.fails("write at an array", ELEMENT, () -> x.write(array, array, value));
        Due.fails("write with an array", ELEMENT, () -> x.write(array, value, array));
        Due.fails("write with none", ELEMENT, () -> x.write(array, value, none));
        Due.fails("kindOf none", ELEMENT, () -> x.kindOf(none));
        Due.fails("equal of an array", ELEMENT, () -> x.equal(array, value));
        Due.fails("equal and none", ELEMENT, () -> x.equal(value, none));
        Due.fails("atMost of an array", ELEMENT, () -> x.atMost(array, value, 21));
        Due.fails("atMost and none", ELEMENT, () -> x.atMost(value, none, -21));
        Due.fails("bound of none", ELEMENT, () -> x.bound(none, value));
        Due.fails("bound and an array", ELEMENT, () -> x.bound(value, array));
        Due.fails("classOf an array", ELEMENT, () -> x.classOf(array));
        Due.fails("classOf none", ELEMENT, () -> x.classOf(none));
        Due.fails("valueOf an array", ELEMENT, () -> x.valueOf(array));
        Due.fails("valueOf none", ELEMENT, () -> x.valueOf(none));
        Due.fails("entry of a value", ELEMENT, () -> x.entry(value, 0));
        Due.fails("entry of none", ELEMENT, () -> x.entry(none, 0));
        Due.fails("functionAt 4", ARGUMENT, () -> x.functionAt(4, 0, 0));
        Due.fails("functionAt -1", ARGUMENT, () -> x.functionAt(-1, 0, 0));
    }

    private static void refuseWrongStatements(Congruary x, int atoms, int frames) {
        int none = 2 * atoms;
        Due.fails("clause of none", ELEMENT, () -> x.clause(none, -1, -1));
        Due.fails("clause of -1", ELEMENT, () -> x.clause(-1, -1, -1));
        Due.fails("clause with none", ELEMENT, () -> x.clause(0, none, -1));
        Due.fails("clause and none", ELEMENT, () -> x.clause(0, -1, none));
        Due.fails("clause and -2", ELEMENT, () -> x.clause(0, 0, -2));
        Due.fails("rule of no kind", ARGUMENT, () -> x.rule('x', 0));
        Due.fails("rule 'i' for 2", ARGUMENT, () -> x.rule('i', 2));
        Due.fails("rule 'c' for 1", ARGUMENT, () -> x.rule('c', 1));
        Due.fails("rule 's' for -1", ARGUMENT, () -> x.rule('s', -1));
        Due.fails("rule 'c' for 4", ARGUMENT, () -> x.rule('c', 4));
        Due.fails("follows none", ELEMENT, () -> x.follows(none));
        Due.fails("reasons of none", ELEMENT, () -> x.reasons(none));
        Due.fails("reasonAt of none", ELEMENT, () -> x.reasonAt(none, -1));
        Due.fails("isTrue of none", ELEMENT, () -> x.isTrue(none));
        for (int n = frames; n < 6; n++) x.push();
        Due.fails("a 7th frame", STATE, x::push);
        for (int n = frames; n < 6; n++) x.pop();
    }

    private static void refuseWithModel(Congruary x) {
        Due.fails("at most 21", ARGUMENT, () -> x.atMost(1, 2, 21));
        Due.fails("at most -21", ARGUMENT, () -> x.atMost(1, 2, -21));
        Due.fails("core", STATE, x::core);
        Due.fails("coreAt", STATE, () -> x.coreAt(0));
        Due.fails("coreAt -1", STATE, () -> x.coreAt(-1));
        Due.fails("coreShare", STATE, x::coreShare);
        Due.fails("reasons of what does not follow", STATE, () -> x.reasons(2));
        Due.fails("reasonAt of what does not follow", STATE, () -> x.reasonAt(2, 0));
        Due.fails("reasonAt of what does not follow, -1", STATE, () -> x.reasonAt(2, -1));
        Due.fails("reasonAt 1", INDEX, () -> x.reasonAt(0, 1));
        Due.fails("reasonAt -1", INDEX, () -> x.reasonAt(0, -1));
        Due.fails("bound of what is not bounded", FAR, () -> x.bound(2, 1));
    }

    private static void refuseWithoutModel(Congruary x) {
        Due.fails("coreAt 2", INDEX, () -> x.coreAt(2));
        Due.fails("coreAt -1", INDEX, () -> x.coreAt(-1));
        Due.fails("reasonAt 2", INDEX, () -> x.reasonAt(4, 2));
        Due.fails("reasonAt -1", INDEX, () -> x.reasonAt(4, -1));
        Due.fails("bound", STATE, () -> x.bound(1, 2));
        Due.fails("bound of what would not be bounded", STATE, () -> x.bound(2, 1));
        Due.fails("classOf", STATE, () -> x.classOf(1));
        Due.fails("classes", STATE, x::classes);
        Due.fails("valueOf", STATE, () -> x.valueOf(1));
        Due.fails("functionAt", STATE, () -> x.functionAt(0, 0, 0));
        Due.fails("entry", STATE, () -> x.entry(0, 0));
        Due.fails("isTrue", STATE, () -> x.isTrue(0));
        Due.fails("trueLiterals", STATE, x::trueLiterals);
        Due.fails("meanValue", STATE, x::meanValue);
    }

    private static Congruary toldAllTerms() {
        Congruary x = toldSome();
        for (int n = 7; n < 14; n++) x.constant();
        return x;
    }

    private static void fullOfTerms() {
        Congruary x = toldAllTerms();
        Due.fails("constant", STATE, x::constant);
        Due.fails("array", STATE, x::array);
        Due.fails("apply", STATE, () -> x.apply(0, 2, -1));
        Due.fails("apply to two", STATE, () -> x.apply(2, 1, 2));
        Due.fails("read", STATE, () -> x.read(0, 1));
        Due.fails("write", STATE, () -> x.write(0, 2, 1));
        Due.is("what is there is no other one", x.apply(0, 1, -1), 4);
        refuseWrongTerms(x, 14, 6, 13);
        areSame("all terms are there", x, toldAllTerms());
    }

    /** An array 0, values 1 and 2, 24 atoms, 14 clauses, 4 rules and 6 frames. */
    private static Congruary toldAllStatements() {
        Congruary x = new Congruary();
        x.array();
        x.constant();
        x.constant();
        for (int n = 0; n < 24; n++) x.atMost(1, 2, n - 20);
        for (int n = 0; n < 14; n++) x.clause(2 * n + 20, 0, -1);
        for (int n = 0; n < 4; n++) x.rule('m', n % 2);
        for (int n = 0; n < 6; n++) x.push();
        return x;
    }

    private static void fullOfStatements() {
        Congruary x = toldAllStatements();
        Due.fails("25th atom, equal", STATE, () -> x.equal(1, 2));
        Due.fails("25th atom, atMost", STATE, () -> x.atMost(2, 1, 0));
        Due.fails("25th atom out of range", ARGUMENT, () -> x.atMost(2, 1, 21));
        Due.fails("25th atom of an array", ELEMENT, () -> x.atMost(0, 1, 21));
        Due.fails("25th atom equal to an array", ELEMENT, () -> x.equal(1, 0));
        Due.fails("15th clause", STATE, () -> x.clause(1, -1, -1));
        Due.fails("15th clause of none", ELEMENT, () -> x.clause(48, -1, -1));
        Due.fails("15th clause with none", ELEMENT, () -> x.clause(1, 48, -1));
        Due.fails("5th rule", STATE, () -> x.rule('i', 0));
        Due.fails("5th rule of no kind", ARGUMENT, () -> x.rule('k', 0));
        Due.fails("5th rule for none of its functions", ARGUMENT, () -> x.rule('c', 0));
        Due.fails("7th frame", STATE, x::push);
        areSame("all statements are there", x, toldAllStatements());
        Due.fails("5th rule again", STATE, () -> x.rule('i', 0));
        for (int n = 0; n < 6; n++) Due.is("pop", x.pop(), 14);
        Due.fails("7th pop", STATE, x::pop);
    }

    /** What was asked before a call that is refused is answered the same after it, and anew after one that is not. */
    private static void changesWhatWasAskedBefore() {
        Congruary x = toldSome();
        Due.is("reasons", x.reasons(0), 1);
        Due.is("valueOf 2", x.valueOf(2), 2);
        Due.is("classes", x.classes(), 5);
        Due.fails("clause", ELEMENT, () -> x.clause(1, 8, -1));
        Due.fails("rule", ARGUMENT, () -> x.rule('i', 3));
        Due.is("reasons", x.reasons(0), 1);
        Due.is("valueOf 2", x.valueOf(2), 2);
        Due.is("classes", x.classes(), 5);
        int more = x.atMost(1, 2, -5);
        Due.is("an atom alone tells nothing", x.valueOf(2), 2);
        x.clause(2 * more, -1, -1);
        Due.is("a clause does", x.valueOf(2), 5);
        Due.is("the first clause is no longer needed", x.reasonAt(0, 0), 3);
        Due.is("pop", x.pop(), 2);
        Due.is("valueOf 2 once more", x.valueOf(2), 2);
        Due.is("the first clause is needed again", x.reasonAt(0, 0), 0);
        Due.fails("the atom is gone", ELEMENT, () -> x.isTrue(2 * more));
    }
}
