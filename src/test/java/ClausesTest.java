import java.util.NoSuchElementException;

/** Promises 12 to 16: clauses, rules and frames. */
public final class ClausesTest {
    private static final Class<IllegalStateException> STATE = IllegalStateException.class;
    private static final Class<IllegalArgumentException> ARGUMENT = IllegalArgumentException.class;
    private static final Class<NoSuchElementException> ELEMENT = NoSuchElementException.class;

    public static void main(String[] args) {
        clause();
        clauses();
        rule();
        ruleApartForApart();
        ruleUndone();
        ruleOrder();
        ruleExchange();
        push();
        pop();
        Due.end();
    }

    private static Congruary withAtoms() {
        Congruary x = new Congruary();
        x.constant();
        x.constant();
        x.equal(0, 1);
        x.atMost(0, 1, -1);
        x.atMost(1, 0, -1);
        return x;
    }

    private static void clause() {
        Congruary x = withAtoms();
        Due.is("one literal", x.clause(1, -1, -1), 0);
        Due.is("three literals", x.clause(0, 2, 4), 1);
        Due.is("a third without a second", x.clause(0, -1, 4), 2);
        Due.is("the second is more", x.valueOf(1), 0);
        Due.is("the first is more", x.valueOf(0), 1);
        Due.fails("first -1", ELEMENT, () -> x.clause(-1, -1, -1));
        Due.fails("first -1 with others", ELEMENT, () -> x.clause(-1, 0, 0));
        Due.fails("first 6", ELEMENT, () -> x.clause(6, -1, -1));
        Due.fails("second 6", ELEMENT, () -> x.clause(0, 6, -1));
        Due.fails("second -2", ELEMENT, () -> x.clause(0, -2, -1));
        Due.fails("third 7", ELEMENT, () -> x.clause(0, -1, 7));
        Due.fails("third -2", ELEMENT, () -> x.clause(0, 0, -2));
        Due.is("clauses", x.clauses(), 3);
        for (int n = 3; n < 14; n++) Due.is("the same clause is another one", x.clause(1, 1, -1), n);
        Due.fails("15th", STATE, () -> x.clause(0, -1, -1));
        Due.fails("15th of no atom", ELEMENT, () -> x.clause(0, 0, 6));
        Due.is("clauses", x.clauses(), 14);
        Due.is("check", x.check(), true);
    }

    private static void clauses() {
        Congruary x = withAtoms();
        Due.is("clauses", x.clauses(), 0);
        x.clause(0, -1, -1);
        x.clause(0, -1, -1);
        Due.is("clauses", x.clauses(), 2);
        x.push();
        x.clause(0, -1, -1);
        Due.is("clauses", x.clauses(), 3);
        x.pop();
        Due.is("clauses", x.clauses(), 2);
    }

    private static void rule() {
        Congruary x = new Congruary();
        Due.is("'i'", x.rule('i', 0), 1);
        Due.is("'s'", x.rule('s', 1), 2);
        Due.fails("'x'", ARGUMENT, () -> x.rule('x', 0));
        Due.fails("'I'", ARGUMENT, () -> x.rule('I', 0));
        Due.fails("'i' for 2", ARGUMENT, () -> x.rule('i', 2));
        Due.fails("'s' for 3", ARGUMENT, () -> x.rule('s', 3));
        Due.fails("'m' for 2", ARGUMENT, () -> x.rule('m', 2));
        Due.fails("'c' for 0", ARGUMENT, () -> x.rule('c', 0));
        Due.fails("'c' for 1", ARGUMENT, () -> x.rule('c', 1));
        Due.fails("'c' for 4", ARGUMENT, () -> x.rule('c', 4));
        Due.fails("'i' for -1", ARGUMENT, () -> x.rule('i', -1));
        Due.is("'m'", x.rule('m', 1), 3);
        Due.is("'c'", x.rule('c', 3), 4);
        Due.fails("5th", STATE, () -> x.rule('c', 2));
        Due.fails("5th again", STATE, () -> x.rule('i', 0));
        Due.fails("5th for no function", ARGUMENT, () -> x.rule('c', 1));
        Congruary twice = new Congruary();
        twice.rule('i', 0);
        Due.is("the same rule twice", twice.rule('i', 0), 2);
    }

    private static void ruleApartForApart() {
        Congruary x = new Congruary();
        x.constant();
        x.constant();
        x.apply(0, 0, -1);
        x.apply(0, 1, -1);
        x.apply(1, 0, -1);
        x.apply(1, 1, -1);
        int arguments = 2 * x.equal(0, 1);
        x.clause(2 * x.equal(2, 3), -1, -1);
        x.clause(2 * x.equal(4, 5), -1, -1);
        Due.is("without a rule", x.follows(arguments), false);
        x.push();
        x.rule('i', 1);
        Due.is("with one for 1", x.follows(arguments), true);
        Due.is("reasons", x.reasons(arguments), 1);
        Due.is("the reason", x.reasonAt(arguments, 0), 1);
        x.pop();
        x.rule('i', 0);
        Due.is("the reason with one for 0", x.reasonAt(arguments, 0), 0);
    }

    private static void ruleUndone() {
        Congruary x = new Congruary();
        x.constant();
        x.apply(0, 0, -1);
        x.rule('s', 0);
        int once = 2 * x.equal(0, 1);
        Due.is("f(0) = 0 follows", x.follows(once), false);
        x.apply(0, 1, -1);
        int twice = 2 * x.equal(2, 0);
        Due.is("f(f(0)) = 0 follows", x.follows(twice), true);
        Due.is("reasons", x.reasons(twice), 0);
        x.apply(0, 2, -1);
        Due.is("f(f(f(0))) = f(0) follows", x.follows(2 * x.equal(3, 1)), true);
        x.apply(1, 0, -1);
        x.apply(1, 4, -1);
        Due.is("g(g(0)) = 0 follows", x.follows(2 * x.equal(5, 0)), false);
        Congruary told = new Congruary();
        told.constant();
        told.apply(0, 0, -1);
        told.constant();
        told.apply(0, 2, -1);
        told.rule('s', 0);
        told.clause(2 * told.equal(1, 2), -1, -1);
        Due.is("it is about arguments that are made as values", told.follows(2 * told.equal(3, 0)), false);
    }

    private static void ruleOrder() {
        Congruary x = new Congruary();
        x.constant();
        x.constant();
        x.apply(0, 0, -1);
        x.apply(0, 1, -1);
        x.rule('m', 0);
        int values = 2 * x.atMost(2, 3, 0);
        int less = 2 * x.atMost(2, 3, -1);
        Due.is("without an order", x.follows(values), false);
        x.clause(2 * x.atMost(0, 1, -1), -1, -1);
        Due.is("with an order", x.follows(values), true);
        Due.is("less", x.follows(less), false);
        Due.is("reasons", x.reasons(values), 1);
        Due.is("bound", x.bound(2, 3), 0);
        Due.fails("bound the other way", UnsupportedOperationException.class, () -> x.bound(3, 2));
        Congruary back = new Congruary();
        back.constant();
        back.constant();
        back.apply(1, 1, -1);
        back.apply(1, 0, -1);
        back.rule('m', 1);
        back.clause(2 * back.atMost(2, 3, -1), -1, -1);
        Due.is("less values come of less arguments", back.follows(2 * back.atMost(1, 0, -1)), true);
    }

    private static void ruleExchange() {
        Congruary x = new Congruary();
        x.constant();
        x.constant();
        x.apply(2, 0, 1);
        x.apply(2, 1, 0);
        x.apply(3, 0, 1);
        x.apply(3, 1, 0);
        int ofTwo = 2 * x.equal(2, 3);
        int ofThree = 2 * x.equal(4, 5);
        Due.is("without a rule", x.follows(ofTwo), false);
        x.rule('c', 2);
        Due.is("of 2", x.follows(ofTwo), true);
        Due.is("of 3", x.follows(ofThree), false);
        x.constant();
        x.constant();
        x.apply(2, 6, 7);
        x.clause(2 * x.equal(6, 1), -1, -1);
        int others = 2 * x.equal(8, 2);
        Due.is("only one argument is the same", x.follows(others), false);
        x.clause(2 * x.equal(0, 7), -1, -1);
        Due.is("both are the same", x.follows(others), true);
    }

    private static void push() {
        Congruary x = new Congruary();
        for (int n = 1; n <= 6; n++) Due.is("push", x.push(), n);
        Due.fails("7th", STATE, x::push);
        Due.is("pop", x.pop(), 0);
        Due.is("push", x.push(), 6);
        Congruary y = withAtoms();
        y.clause(0, -1, -1);
        Due.is("push", y.push(), 1);
        Due.is("terms stay", y.terms(), 2);
        Due.is("atoms stay", y.atoms(), 3);
        Due.is("clauses stay", y.clauses(), 1);
        Due.is("answers stay", y.follows(0), true);
    }

    private static void pop() {
        Congruary x = withAtoms();
        Due.fails("without frames", STATE, x::pop);
        x.clause(2, 4, -1);
        x.push();
        x.array();
        x.apply(0, 0, -1);
        x.rule('i', 0);
        x.equal(0, 3);
        x.clause(0, -1, -1);
        x.push();
        x.clause(6, -1, -1);
        Due.is("check", x.check(), false);
        Due.is("pop", x.pop(), 2);
        Due.is("check", x.check(), false);
        Due.is("terms", x.terms(), 4);
        Due.is("atoms", x.atoms(), 4);
        Due.is("pop", x.pop(), 1);
        Due.is("check", x.check(), true);
        Due.is("terms", x.terms(), 2);
        Due.is("atoms", x.atoms(), 3);
        Due.is("rules", x.rule('i', 0), 1);
        Due.fails("no frames are left", STATE, x::pop);
        Due.is("clauses", x.clauses(), 1);
        Due.is("a term that was taken away is made anew", x.apply(0, 0, -1), 2);
        Due.fails("an atom that was taken away", ELEMENT, () -> x.follows(6));
        Congruary y = new Congruary();
        y.push();
        for (int n = 0; n < 4; n++) y.rule('m', 0);
        y.pop();
        Due.is("rules are taken away", y.rule('m', 0), 1);
    }
}
