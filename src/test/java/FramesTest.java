import java.util.NoSuchElementException;

/**
 * "A pop takes away all terms, atoms, clauses and rules that came since the last push, and their numbers are given
 * anew."
 */
public final class FramesTest {
    private static final Class<IllegalStateException> STATE = IllegalStateException.class;
    private static final Class<NoSuchElementException> ELEMENT = NoSuchElementException.class;
    private static final Class<UnsupportedOperationException> FAR = UnsupportedOperationException.class;

    public static void main(String[] args) {
        termsAnew();
        sharedTermsAnew();
        atomsAnew();
        clausesAnew();
        rulesAnew();
        limitsAnew();
        answersAnew();
        explanationsAnew();
        modelAnew();
        framesInFrames();
        emptyFrames();
        sameAsNeverTold();
        Due.end();
    }

    /** A number that is taken away is given to a term of another kind. */
    private static void termsAnew() {
        Congruary x = new Congruary();
        x.array();
        x.constant();
        x.push();
        Due.is("a value", x.constant(), 2);
        Due.is("kind", x.kindOf(2), 'c');
        x.pop();
        Due.fails("it is taken away", ELEMENT, () -> x.kindOf(2));
        Due.fails("it can not be read at", ELEMENT, () -> x.read(0, 2));
        Due.fails("it can not be told of", ELEMENT, () -> x.equal(1, 2));
        Due.fails("it has no value", ELEMENT, () -> x.valueOf(2));
        x.push();
        Due.is("an array", x.write(0, 1, 1), 2);
        Due.is("kind", x.kindOf(2), 'w');
        Due.fails("it is no value", ELEMENT, () -> x.valueOf(2));
        Due.is("it has an entry", x.entry(2, 0), 0);
        x.pop();
        Due.is("a value of a function", x.apply(1, 1, -1), 2);
        Due.is("kind", x.kindOf(2), 'f');
        Due.fails("it has no entry", ELEMENT, () -> x.entry(2, 0));
    }

    /** A term that was taken away is not the one that is made of the same. */
    private static void sharedTermsAnew() {
        Congruary x = new Congruary();
        x.array();
        x.constant();
        x.push();
        Due.is("f(1)", x.apply(0, 1, -1), 2);
        Due.is("read(0, 1)", x.read(0, 1), 3);
        Due.is("write(0, 1, 1)", x.write(0, 1, 1), 4);
        x.pop();
        Due.is("write(0, 1, 1)", x.write(0, 1, 1), 2);
        Due.is("read(0, 1)", x.read(0, 1), 3);
        Due.is("f(1)", x.apply(0, 1, -1), 4);
        x.push();
        Due.is("those before the push stay", x.write(0, 1, 1), 2);
        Due.is("read(0, 1)", x.read(0, 1), 3);
        Due.is("terms", x.terms(), 5);
        x.pop();
        Due.is("asked for again, they are not taken away", x.terms(), 5);
        Due.is("f(1)", x.apply(0, 1, -1), 4);
    }

    private static void atomsAnew() {
        Congruary x = new Congruary();
        x.constant();
        x.constant();
        Due.is("equal", x.equal(0, 1), 0);
        x.push();
        Due.is("the one that is there", x.equal(0, 1), 0);
        Due.is("less", x.atMost(0, 1, -1), 1);
        Due.is("more", x.atMost(1, 0, -1), 2);
        Due.is("follows", x.follows(4), false);
        x.pop();
        Due.is("atoms", x.atoms(), 1);
        Due.fails("taken away", ELEMENT, () -> x.follows(2));
        Due.fails("its contrary too", ELEMENT, () -> x.clause(3, -1, -1));
        Due.is("more", x.atMost(1, 0, -1), 1);
        Due.is("less", x.atMost(0, 1, -1), 2);
        x.clause(2, -1, -1);
        Due.is("the number means what is told anew", x.bound(1, 0), -1);
    }

    private static void clausesAnew() {
        Congruary x = new Congruary();
        x.constant();
        x.constant();
        x.equal(0, 1);
        x.atMost(0, 1, -1);
        x.push();
        Due.is("first", x.clause(0, -1, -1), 0);
        Due.is("second", x.clause(2, -1, -1), 1);
        Due.is("check", x.check(), false);
        Due.is("no clause is left", x.pop(), 0);
        Due.is("clauses", x.clauses(), 0);
        Due.is("check", x.check(), true);
        Due.is("first anew", x.clause(2, 0, -1), 0);
        Due.is("second anew", x.clause(1, -1, -1), 1);
        Due.is("they tell what is told anew", x.bound(0, 1), -1);
        Due.is("both are reasons", x.reasons(2), 2);
    }

    private static void rulesAnew() {
        Congruary x = new Congruary();
        x.constant();
        x.apply(0, x.apply(0, 0, -1), -1);
        int back = 2 * x.equal(2, 0);
        Due.is("rule", x.rule('m', 1), 1);
        x.push();
        Due.is("rule", x.rule('s', 0), 2);
        Due.is("it holds", x.follows(back), true);
        x.pop();
        Due.is("it is taken away", x.follows(back), false);
        Due.is("rule", x.rule('i', 0), 2);
        Due.is("another one with its number", x.follows(back), false);
        Due.is("rule", x.rule('s', 0), 3);
        Due.is("it holds again", x.follows(back), true);
        x.push();
        Due.is("it stays in a frame", x.follows(back), true);
        x.pop();
        Due.is("and behind it", x.follows(back), true);
    }

    /** What is taken away does not count for the limits. */
    private static void limitsAnew() {
        Congruary x = new Congruary();
        x.constant();
        x.constant();
        for (int turn = 0; turn < 2; turn++) {
            x.push();
            for (int n = 2; n < 14; n++) Due.is("constant", x.constant(), n);
            for (int n = 0; n < 24; n++) Due.is("atom", x.atMost(0, 1, n - 4), n);
            for (int n = 0; n < 14; n++) Due.is("clause", x.clause(2 * n, -1, -1), n);
            for (int n = 1; n <= 4; n++) Due.is("rule", x.rule('c', 3), n);
            Due.fails("15th term", STATE, x::constant);
            Due.fails("25th atom", STATE, () -> x.equal(0, 1));
            Due.fails("15th clause", STATE, () -> x.clause(0, -1, -1));
            Due.fails("5th rule", STATE, () -> x.rule('c', 3));
            Due.is("bound", x.bound(0, 1), -4);
            Due.is("pop", x.pop(), 0);
            Due.is("terms", x.terms(), 2);
            Due.is("atoms", x.atoms(), 0);
            Due.fails("bound", FAR, () -> x.bound(0, 1));
        }
        for (int turn = 0; turn < 20; turn++) {
            Due.is("push", x.push(), 1);
            Due.is("pop", x.pop(), 0);
        }
    }

    /** Each answer is asked ahead of a push, in the frame, and after the pop. */
    private static void answersAnew() {
        Congruary x = new Congruary();
        for (int n = 0; n < 3; n++) x.constant();
        int less = 2 * x.atMost(0, 1, -1);
        int same = 2 * x.equal(1, 2);
        x.clause(less, -1, -1);
        for (int turn = 0; turn < 2; turn++) {
            Due.is("check", x.check(), true);
            Due.is("follows", x.follows(same), false);
            Due.is("classes", x.classes(), 3);
            Due.is("classOf", x.classOf(2), 2);
            Due.fails("bound", FAR, () -> x.bound(0, 2));
            x.push();
            x.clause(same, -1, -1);
            Due.is("follows in the frame", x.follows(same), true);
            Due.is("classes in the frame", x.classes(), 2);
            Due.is("classOf in the frame", x.classOf(2), 1);
            Due.is("bound in the frame", x.bound(0, 2), -1);
            x.push();
            x.clause(less + 1, -1, -1);
            Due.is("check in the second", x.check(), false);
            Due.is("all follows in the second", x.follows(less + 1), true);
            Due.fails("no classes in the second", STATE, x::classes);
            Due.is("pop", x.pop(), 2);
            Due.is("follows in the frame again", x.follows(same), true);
            Due.is("not all follows", x.follows(less + 1), false);
            Due.is("classes in the frame again", x.classes(), 2);
            Due.is("pop", x.pop(), 1);
        }
    }

    private static void explanationsAnew() {
        Congruary x = new Congruary();
        x.constant();
        x.constant();
        int less = 2 * x.atMost(0, 1, -1);
        int apart = 2 * x.equal(0, 1) + 1;
        x.clause(less, -1, -1);
        Due.is("the first is the reason", x.reasonAt(apart, 0), 0);
        x.push();
        x.clause(apart, -1, -1);
        Due.is("the second is enough", x.reasonAt(apart, 0), 1);
        x.clause(less + 1, -1, -1);
        Due.is("core", x.core(), 2);
        Due.is("coreAt(1)", x.coreAt(1), 2);
        Due.is("coreShare", x.coreShare(), 2f / 3f);
        x.pop();
        Due.is("the first is the reason again", x.reasonAt(apart, 0), 0);
        Due.fails("there is no core", STATE, x::core);
        Due.fails("there is no share", STATE, x::coreShare);
        x.clause(apart - 1, -1, -1);
        Due.is("another core", x.core(), 2);
        Due.is("coreShare", x.coreShare(), 1f);
    }

    private static void modelAnew() {
        Congruary x = new Congruary();
        x.constant();
        x.array();
        x.read(1, 0);
        int more = 2 * x.atMost(0, 2, -3);
        Due.is("valueOf", x.valueOf(2), 0);
        x.push();
        x.clause(more, -1, -1);
        Due.is("valueOf in the frame", x.valueOf(2), 3);
        Due.is("entry in the frame", x.entry(1, 0), 3);
        Due.is("isTrue in the frame", x.isTrue(more), true);
        Due.is("trueLiterals in the frame", x.trueLiterals(), 1L);
        Due.is("meanValue in the frame", x.meanValue(), 1.5);
        x.apply(0, 2, -1);
        x.clause(2 * x.atMost(2, 3, -1), -1, -1);
        Due.is("functionAt in the frame", x.functionAt(0, 3, -1), 4);
        x.pop();
        Due.is("valueOf", x.valueOf(2), 0);
        Due.is("entry", x.entry(1, 0), 0);
        Due.is("functionAt", x.functionAt(0, 3, -1), 0);
        Due.is("isTrue", x.isTrue(more), false);
        Due.is("trueLiterals", x.trueLiterals(), 0L);
        Due.is("meanValue", x.meanValue(), 0.0);
        Due.is("isSound", x.isSound(), true);
        entryAnew();
    }

    /** What a value told of an array that was taken away is not told any more. */
    private static void entryAnew() {
        Congruary x = new Congruary();
        x.array();
        x.constant();
        x.push();
        x.read(0, 1);
        x.clause(2 * x.atMost(1, 2, -5), -1, -1);
        Due.is("entry in the frame", x.entry(0, 0), 5);
        x.pop();
        Due.is("entry", x.entry(0, 0), 0);
        x.array();
        Due.is("entry of the first", x.entry(0, 0), 0);
        Due.is("entry of another one", x.entry(2, 0), 0);
    }

    /** A pop takes away what came since the last push alone, also if frames were popped and pushed between. */
    private static void framesInFrames() {
        Congruary x = new Congruary();
        x.constant();
        pushLess(x, 1);
        pushLess(x, 2);
        pushLess(x, 3);
        Due.is("valueOf(3)", x.valueOf(3), 3);
        Due.is("pop", x.pop(), 2);
        pushLess(x, 3);
        pushLess(x, 4);
        Due.is("valueOf(4)", x.valueOf(4), 4);
        Due.fails("5th rule", STATE, () -> x.rule('i', 0));
        for (int left = 3; left >= 0; left--) {
            Due.is("pop", x.pop(), left);
            Due.is("terms", x.terms(), left + 1);
            Due.is("atoms", x.atoms(), left);
            Due.is("clauses", x.clauses(), left);
            Due.is("the last value", x.valueOf(left), left);
        }
        Due.fails("no frames are left", STATE, x::pop);
        Due.is("no rules are left", x.rule('i', 0), 1);
    }

    /** Pushes a frame with a value that is greater than the one before it, and a rule. */
    private static void pushLess(Congruary x, int frames) {
        Due.is("push", x.push(), frames);
        Due.is("constant", x.constant(), frames);
        Due.is("atMost", x.atMost(frames - 1, frames, -1), frames - 1);
        Due.is("clause", x.clause(2 * (frames - 1), -1, -1), frames - 1);
        Due.is("rule", x.rule('i', 0), frames);
    }

    private static void emptyFrames() {
        Congruary x = new Congruary();
        x.constant();
        x.clause(2 * x.equal(0, 0), -1, -1);
        for (int n = 1; n <= 6; n++) Due.is("push", x.push(), n);
        for (int n = 1; n <= 6; n++) Due.is("pop", x.pop(), 1);
        Due.fails("no frames are left", STATE, x::pop);
        Due.is("terms", x.terms(), 1);
        Due.is("atoms", x.atoms(), 1);
        Due.is("trueLiterals", x.trueLiterals(), 1L);
    }

    private static Congruary told() {
        Congruary x = new Congruary();
        x.array();
        for (int n = 0; n < 3; n++) x.constant();
        x.apply(2, 1, 2);
        x.apply(2, 2, 1);
        x.read(0, 3);
        x.rule('c', 2);
        x.clause(2 * x.atMost(1, 2, -2), 2 * x.equal(4, 3) + 1, -1);
        x.clause(2 * x.equal(5, 6), -1, -1);
        return x;
    }

    /** After a pop all is answered as if what was taken away had never been told. */
    private static void sameAsNeverTold() {
        Congruary x = told();
        x.push();
        x.write(0, 1, 2);
        x.read(7, 3);
        x.apply(2, 3, 3);
        x.rule('m', 0);
        x.rule('i', 1);
        x.clause(2 * x.equal(8, 3) + 1, -1, -1);
        x.clause(2 * x.equal(4, 3), -1, -1);
        Due.is("check", x.check(), true);
        Due.is("isSound", x.isSound(), true);
        x.push();
        x.clause(2 * x.atMost(2, 1, 0), -1, -1);
        x.clause(2 * x.atMost(1, 2, 3), -1, -1);
        Due.is("core", x.core(), 3);
        x.pop();
        x.pop();
        Due.is("after two pops", Snapshot.of(x), Snapshot.of(told()));
    }
}
