import java.util.NoSuchElementException;

/** As many terms, atoms, clauses, rules and frames as there can be, and one more; numbers at an end, and behind it. */
public final class LimitsTest {
    private static final Class<IllegalStateException> STATE = IllegalStateException.class;
    private static final Class<IllegalArgumentException> ARGUMENT = IllegalArgumentException.class;
    private static final Class<NoSuchElementException> ELEMENT = NoSuchElementException.class;
    private static final Class<IndexOutOfBoundsException> INDEX = IndexOutOfBoundsException.class;
    private static final Class<UnsupportedOperationException> FAR = UnsupportedOperationException.class;
    private static final int LEAST = Integer.MIN_VALUE;
    private static final int GREATEST = Integer.MAX_VALUE;
    private static final int[] NO_TERMS = {LEAST, -15, -2, -1, 14, 15, 28, GREATEST};
    private static final int[] FAR_NUMBERS = {LEAST, LEAST + 1, -1000, -22, -21, 21, 22, 1000, GREATEST};
    private static final int[] NO_FUNCTIONS = {LEAST, -2, -1, 4, 5, 8, GREATEST};
    private static final String[] MAKERS = {"constant", "array", "apply 1", "apply 2", "read", "write"};

    public static void main(String[] args) {
        lastTerm();
        sharedWhenFull();
        numbersOfTerms();
        lastAtom();
        numbersOfAtoms();
        mostOfAtoms();
        lastClause();
        literalsOfClauses();
        literalsOfQuestions();
        lastRule();
        functionsOfRules();
        functionsOfTerms();
        lastFrame();
        boundsOfAtoms();
        boundsInCircles();
        numbersOfModel();
        indexOfCore();
        indexOfReasons();
        figures();
        manyCalls();
        Due.end();
    }

    /** An object with an array 0 and constant values behind it. */
    private static Congruary withTerms(int count) {
        Congruary x = new Congruary();
        x.array();
        for (int n = 1; n < count; n++) x.constant();
        return x;
    }

    /** An object with an array 0, values 1 and 2, and 23 atoms: 1 less 2 is at most -20 to 2. */
    private static Congruary withAtoms() {
        Congruary x = withTerms(3);
        for (int n = 0; n < 23; n++) Due.is("atom", x.atMost(1, 2, n - 20), n);
        return x;
    }

    private static Object make(Congruary x, int maker) {
        switch (maker) {
            case 0: return Due.answer(x::constant);
            case 1: return Due.answer(x::array);
            case 2: return Due.answer(() -> x.apply(1, 12, -1));
            case 3: return Due.answer(() -> x.apply(2, 12, 11));
            case 4: return Due.answer(() -> x.read(0, 12));
            default: return Due.answer(() -> x.write(0, 12, 11));
        }
    }

    /** "At most 14 terms are there, numbered from 0." */
    private static void lastTerm() {
        for (int last = 0; last < MAKERS.length; last++) {
            Congruary x = withTerms(13);
            Due.is("14th, " + MAKERS[last], make(x, last), 13);
            for (int more = 0; more < MAKERS.length; more++) {
                boolean isThere = more == last && more > 1;
                String call = "15th, " + MAKERS[more] + " after " + MAKERS[last];
                Due.is(call, make(x, more), isThere ? (Object) 13 : STATE);
            }
            Due.is("terms", x.terms(), 14);
            Due.is("kind of the 14th", x.kindOf(13), "caffrw".charAt(last));
            Due.fails("kind of a 15th", ELEMENT, () -> x.kindOf(14));
            Due.is("check", x.check(), true);
            Due.is("classes", x.classes(), last == 1 || last == 5 ? 12 : 13);
        }
    }

    /** "A term that is made of the same as one that is there, other than a constant, is that one." */
    private static void sharedWhenFull() {
        Congruary x = withTerms(4);
        int[] made = {x.apply(0, 1, -1), x.apply(1, 1, -1), x.apply(2, 1, 2), x.apply(3, 1, 2), x.read(0, 1),
                x.write(0, 1, 2), x.write(0, 1, 3), x.read(9, 1), x.write(9, 1, 2), x.apply(2, 1, 1)};
        for (int n = 0; n < made.length; n++) Due.is("made one after another", made[n], n + 4);
        Due.is("terms", x.terms(), 14);
        Due.is("f(1)", x.apply(0, 1, -1), 4);
        Due.is("g(1)", x.apply(1, 1, -1), 5);
        Due.is("h(1, 2)", x.apply(2, 1, 2), 6);
        Due.is("k(1, 2)", x.apply(3, 1, 2), 7);
        Due.is("read(0, 1)", x.read(0, 1), 8);
        Due.is("write(0, 1, 2)", x.write(0, 1, 2), 9);
        Due.is("write(0, 1, 3)", x.write(0, 1, 3), 10);
        Due.is("read(9, 1)", x.read(9, 1), 11);
        Due.is("write(9, 1, 2)", x.write(9, 1, 2), 12);
        Due.is("h(1, 1)", x.apply(2, 1, 1), 13);
        Due.fails("h(2, 1) is another one", STATE, () -> x.apply(2, 2, 1));
        Due.fails("k(1, 1) is another one", STATE, () -> x.apply(3, 1, 1));
        Due.fails("f(2) is another one", STATE, () -> x.apply(0, 2, -1));
        Due.fails("read(0, 2) is another one", STATE, () -> x.read(0, 2));
        Due.fails("read(10, 1) is another one", STATE, () -> x.read(10, 1));
        Due.fails("write(0, 2, 2) is another one", STATE, () -> x.write(0, 2, 2));
        Due.fails("write(0, 1, 1) is another one", STATE, () -> x.write(0, 1, 1));
        Due.fails("write(10, 1, 2) is another one", STATE, () -> x.write(10, 1, 2));
    }

    /** Numbers of terms below 0 and behind the last, for each call that takes them. */
    private static void numbersOfTerms() {
        for (int number : NO_TERMS) {
            Congruary x = withTerms(14);
            Due.fails("kindOf " + number, ELEMENT, () -> x.kindOf(number));
            Due.fails("classOf " + number, ELEMENT, () -> x.classOf(number));
            Due.fails("valueOf " + number, ELEMENT, () -> x.valueOf(number));
            Due.fails("entry " + number, ELEMENT, () -> x.entry(number, 0));
            Due.fails("bound of " + number, ELEMENT, () -> x.bound(number, 1));
            Due.fails("bound and " + number, ELEMENT, () -> x.bound(1, number));
            Due.fails("equal of " + number, ELEMENT, () -> x.equal(number, 1));
            Due.fails("equal and " + number, ELEMENT, () -> x.equal(1, number));
            Due.fails("atMost of " + number, ELEMENT, () -> x.atMost(number, 1, 0));
            Due.fails("atMost and " + number, ELEMENT, () -> x.atMost(1, number, 0));
            Due.is("atoms", x.atoms(), 0);
            Congruary y = withTerms(13);
            if (number == 14) y.constant();
            Due.fails("f of " + number, ELEMENT, () -> y.apply(0, number, -1));
            Due.fails("k of " + number, ELEMENT, () -> y.apply(3, number, 1));
            Due.fails("k and " + number, ELEMENT, () -> y.apply(3, 1, number));
            Due.fails("read of " + number, ELEMENT, () -> y.read(number, 1));
            Due.fails("read at " + number, ELEMENT, () -> y.read(0, number));
            Due.fails("write of " + number, ELEMENT, () -> y.write(number, 1, 1));
            Due.fails("write at " + number, ELEMENT, () -> y.write(0, number, 1));
            Due.fails("write with " + number, ELEMENT, () -> y.write(0, 1, number));
            if (number != -1) Due.fails("f and " + number, ARGUMENT, () -> y.apply(0, 1, number));
        }
        Congruary few = withTerms(3);
        Due.fails("a number that is not given yet", ELEMENT, () -> few.kindOf(3));
        Due.fails("an array that is not made yet", ELEMENT, () -> few.entry(3, 0));
        Due.fails("a value that is not made yet", ELEMENT, () -> few.valueOf(3));
        Due.is("the last one", few.valueOf(2), 0);
        Due.is("the first one", few.entry(0, 0), 0);
    }

    /** "At most 24 atoms are there, numbered from 0." */
    private static void lastAtom() {
        Congruary x = withAtoms();
        Due.is("24th", x.equal(2, 1), 23);
        Due.fails("25th, equal", STATE, () -> x.equal(1, 2));
        Due.fails("25th, atMost", STATE, () -> x.atMost(1, 2, 3));
        Due.is("24th again", x.equal(2, 1), 23);
        Due.is("first again", x.atMost(1, 2, -20), 0);
        Due.is("atoms", x.atoms(), 24);
        Due.is("its last literal", x.clause(47, -1, -1), 0);
        Due.is("its last literal follows", x.follows(47), true);
        Due.is("the other one does not", x.follows(46), false);
        Congruary y = withAtoms();
        Due.is("24th", y.atMost(2, 1, 20), 23);
        Due.fails("25th, equal", STATE, () -> y.equal(1, 1));
        Due.fails("25th, atMost", STATE, () -> y.atMost(2, 1, -20));
        Due.is("24th again", y.atMost(2, 1, 20), 23);
    }

    /** "One that is told of the same terms in the same order and with the same number ... is that one." */
    private static void numbersOfAtoms() {
        Congruary x = withTerms(3);
        Due.is("equal(1, 2)", x.equal(1, 2), 0);
        Due.is("in another order", x.equal(2, 1), 1);
        Due.is("atMost(1, 2, 0)", x.atMost(1, 2, 0), 2);
        Due.is("in another order", x.atMost(2, 1, 0), 3);
        Due.is("with another number", x.atMost(1, 2, 1), 4);
        Due.is("with its contrary", x.atMost(1, 2, -1), 5);
        Due.is("perhaps the same", x.equal(2, 2), 6);
        Due.is("perhaps the same", x.atMost(2, 2, 0), 7);
        Due.is("equal(1, 2)", x.equal(1, 2), 0);
        Due.is("equal(2, 1)", x.equal(2, 1), 1);
        Due.is("atMost(1, 2, 0)", x.atMost(1, 2, 0), 2);
        Due.is("atMost(2, 1, 0)", x.atMost(2, 1, 0), 3);
        Due.is("atMost(1, 2, 1)", x.atMost(1, 2, 1), 4);
        Due.is("atMost(1, 2, -1)", x.atMost(1, 2, -1), 5);
        Due.is("equal(2, 2)", x.equal(2, 2), 6);
        Due.is("atMost(2, 2, 0)", x.atMost(2, 2, 0), 7);
        Due.is("atoms", x.atoms(), 8);
    }

    /** "The number, -20 to 20". */
    private static void mostOfAtoms() {
        for (int most = -20; most <= 20; most++) {
            Congruary x = withTerms(3);
            Due.is("atMost " + most, x.atMost(1, 2, most), 0);
            x.clause(0, -1, -1);
            Due.is("bound of atMost " + most, x.bound(1, 2), most);
            Congruary y = withTerms(3);
            y.atMost(1, 2, most);
            y.clause(1, -1, -1);
            Due.is("bound of more than " + most, y.bound(2, 1), -most - 1);
        }
        for (int most : FAR_NUMBERS) {
            Congruary x = withTerms(3);
            Due.fails("atMost " + most, ARGUMENT, () -> x.atMost(1, 2, most));
            Due.fails("atMost of the same " + most, ARGUMENT, () -> x.atMost(2, 2, most));
            Due.fails("of an array, atMost " + most, ELEMENT, () -> x.atMost(0, 2, most));
            Due.is("atoms", x.atoms(), 0);
            Congruary full = withAtoms();
            full.equal(1, 2);
            Due.fails("25th, atMost " + most, ARGUMENT, () -> full.atMost(1, 2, most));
        }
    }

    /** "At most 14 clauses are there, numbered from 0". */
    private static void lastClause() {
        Congruary x = withAtoms();
        for (int n = 0; n < 13; n++) Due.is("clause", x.clause(2 * n + 6, -1, -1), n);
        Due.is("14th", x.clause(45, 0, -1), 13);
        Due.is("clauses", x.clauses(), 14);
        Due.is("check", x.check(), true);
        Due.is("the 14th counts", x.follows(0), true);
        Due.is("it is a reason", x.reasonAt(0, 1), 13);
        Due.fails("15th", STATE, () -> x.clause(0, -1, -1));
        Due.fails("15th, the same", STATE, () -> x.clause(6, -1, -1));
        Due.fails("15th, of no literal", ELEMENT, () -> x.clause(46, -1, -1));
        Due.fails("15th, with no literal", ELEMENT, () -> x.clause(0, 46, -1));
        Due.fails("15th, and no literal", ELEMENT, () -> x.clause(0, -1, -2));
        Due.is("clauses", x.clauses(), 14);
        Due.is("check", x.check(), true);
    }

    /** "A clause has 1 to 3 literals, of which at least one is true." */
    private static void literalsOfClauses() {
        int[] none = {LEAST, -3, -2, 46, 47, 48, 2 * 46, GREATEST};
        for (int literal : none) {
            Congruary x = withAtoms();
            Due.fails("first " + literal, ELEMENT, () -> x.clause(literal, -1, -1));
            Due.fails("second " + literal, ELEMENT, () -> x.clause(0, literal, -1));
            Due.fails("third " + literal, ELEMENT, () -> x.clause(0, -1, literal));
            Due.fails("third behind two, " + literal, ELEMENT, () -> x.clause(0, 0, literal));
            Due.is("clauses", x.clauses(), 0);
            Due.is("nothing follows", x.follows(0), false);
        }
        Congruary x = withAtoms();
        Due.fails("first -1", ELEMENT, () -> x.clause(-1, 0, 0));
        Due.fails("no literal at all", ELEMENT, () -> x.clause(-1, -1, -1));
        Due.is("the last literal", x.clause(45, -1, -1), 0);
        Due.is("the last literal as second", x.clause(0, 45, -1), 1);
        Due.is("the last literal as third", x.clause(0, -1, 45), 2);
        Due.is("three times", x.clause(45, 45, 45), 3);
        Due.is("check", x.check(), true);
        Due.is("all are true by one", x.reasons(45), 1);
        Due.is("the last one", x.reasonAt(45, 0), 3);
        x.clause(44, 42, 0);
        Due.is("each literal is false", x.check(), false);
        Due.is("core", x.core(), 2);
    }

    /** "A literal is 2 times an atom, for the atom, or this plus 1, for its contrary." */
    private static void literalsOfQuestions() {
        int[] none = {LEAST, -2, -1, 46, 47, 48, 2 * 46, GREATEST};
        for (int literal : none) {
            for (int told = 0; told < 2; told++) {
                Congruary x = withAtoms();
                if (told == 1) {
                    x.clause(0, -1, -1);
                    x.clause(1, -1, -1);
                }
                Due.fails("follows " + literal, ELEMENT, () -> x.follows(literal));
                Due.fails("reasons " + literal, ELEMENT, () -> x.reasons(literal));
                Due.fails("reasonAt " + literal, ELEMENT, () -> x.reasonAt(literal, -1));
                Due.fails("isTrue " + literal, ELEMENT, () -> x.isTrue(literal));
            }
        }
        Congruary x = withAtoms();
        x.clause(1, -1, -1);
        Due.is("first literal", x.follows(0), false);
        Due.is("its contrary", x.follows(1), true);
        x.clause(44, -1, -1);
        Due.is("last atom", x.follows(44), true);
        Due.is("last literal", x.follows(45), false);
        Due.is("reasons of the last atom", x.reasons(44), 1);
        Due.is("reasonAt of the last atom", x.reasonAt(44, 0), 1);
        Due.is("isTrue of the last atom", x.isTrue(44), true);
        Due.is("isTrue of the last literal", x.isTrue(45), false);
    }

    /** "At most 4 rules are there." */
    private static void lastRule() {
        Congruary x = withTerms(2);
        for (int n = 1; n <= 4; n++) Due.is("rule", x.rule('i', 0), n);
        for (int n = 0; n < 4; n++) {
            char kind = "ismc".charAt(n);
            int function = n == 3 ? 2 : 1;
            Due.fails("5th, " + kind, STATE, () -> x.rule(kind, function));
            Due.fails("5th, " + kind + " of no function", ARGUMENT, () -> x.rule(kind, 4));
        }
        Due.fails("5th, of no kind", ARGUMENT, () -> x.rule('a', 0));
        int once = x.apply(1, 1, -1);
        int twice = x.apply(1, once, -1);
        Due.is("the 5th is not there", x.follows(2 * x.equal(twice, 1)), false);
        Congruary y = withTerms(2);
        for (int n = 1; n <= 3; n++) y.rule('c', 2);
        Due.is("4th", y.rule('s', 0), 4);
        int back = y.apply(0, y.apply(0, 1, -1), -1);
        Due.is("the 4th is there", y.follows(2 * y.equal(back, 1)), true);
    }

    /** "The function, 0 or 1 for 'i', 's' and 'm', 2 or 3 for 'c'"; kinds beside these four. */
    private static void functionsOfRules() {
        for (char kind : "ismc".toCharArray()) {
            for (int function = 0; function < 4; function++) {
                Congruary x = new Congruary();
                int asked = function;
                boolean fits = function < 2 != (kind == 'c');
                if (fits) Due.is(kind + " of " + function, x.rule(kind, function), 1);
                else Due.fails(kind + " of " + function, ARGUMENT, () -> x.rule(kind, asked));
                Due.is("one more", x.rule('m', 1), fits ? 2 : 1);
            }
            for (int function : NO_FUNCTIONS) {
                Congruary x = new Congruary();
                Due.fails(kind + " of " + function, ARGUMENT, () -> x.rule(kind, function));
            }
        }
        char[] none = {0, 1, ' ', '0', 'C', 'I', 'M', 'S', 'a', 'b', 'd', 'f', 'h', 'j', 'l', 'n', 'r', 't', 'w', 'z',
            (char) 233, (char) ('i' + 256), (char) ('c' + 65280), Character.MAX_VALUE};
        for (char kind : none) {
            for (int function = -1; function < 5; function++) {
                Congruary x = new Congruary();
                int asked = function;
                Due.fails((int) kind + " of " + function, ARGUMENT, () -> x.rule(kind, asked));
            }
        }
    }

    /** "A function from 0 to 3, where the functions 0 and 1 have one argument, and 2 and 3 have two". */
    private static void functionsOfTerms() {
        Congruary x = withTerms(3);
        for (int n = 0; n < 4; n++) {
            Due.is("apply " + n, x.apply(n, 1, n < 2 ? -1 : 2), 3 + n);
            Due.is("functionAt " + n, x.functionAt(n, 0, 0), 0);
        }
        for (int n = 0; n < 2; n++) {
            int function = n;
            Due.fails("two arguments for " + n, ARGUMENT, () -> x.apply(function, 1, 2));
            Due.fails("one argument for " + (n + 2), ELEMENT, () -> x.apply(function + 2, 1, -1));
        }
        for (int function : NO_FUNCTIONS) {
            Due.fails("apply " + function, ARGUMENT, () -> x.apply(function, 1, -1));
            Due.fails("apply " + function + " with two", ARGUMENT, () -> x.apply(function, 1, 2));
            Due.fails("functionAt " + function, ARGUMENT, () -> x.functionAt(function, 0, 0));
        }
        Due.is("terms", x.terms(), 7);
    }

    /** "At most 6 frames are pushed." */
    private static void lastFrame() {
        Congruary x = withTerms(2);
        for (int n = 1; n <= 6; n++) {
            Due.is("push", x.push(), n);
            x.constant();
            x.clause(2 * x.equal(n, n + 1), -1, -1);
        }
        Due.fails("7th", STATE, x::push);
        Due.fails("7th again", STATE, x::push);
        Due.is("terms stay", x.terms(), 8);
        Due.is("clauses stay", x.clauses(), 6);
        for (int n = 5; n >= 0; n--) {
            Due.is("one class", x.classes(), 1);
            Due.is("pop", x.pop(), n);
            Due.is("terms", x.terms(), n + 2);
            Due.is("atoms", x.atoms(), n);
        }
        Due.fails("no frames are left", STATE, x::pop);
        Due.fails("no frames are left again", STATE, x::pop);
        Due.is("terms stay", x.terms(), 2);
        Due.is("first again", x.push(), 1);
        Due.is("pop", x.pop(), 0);
        Due.fails("no frames are left once more", STATE, x::pop);
    }

    /** "The least number from -400 to 400": with 14 terms it is from -273 to 260. */
    private static void boundsOfAtoms() {
        Congruary x = new Congruary();
        Congruary y = new Congruary();
        for (int n = 0; n < 14; n++) {
            x.constant();
            y.constant();
        }
        for (int n = 0; n < 13; n++) {
            x.clause(2 * x.atMost(n, n + 1, 20), -1, -1);
            y.clause(2 * y.atMost(n, n + 1, 20) + 1, -1, -1);
        }
        for (int n = 0; n < 14; n++) {
            int first = n;
            Due.is("to the last", x.bound(n, 13), 20 * (13 - n));
            Due.is("from the last", y.bound(13, n), -21 * (13 - n));
            if (n == 13) continue;
            Due.fails("not from the last", FAR, () -> x.bound(13, first));
            Due.fails("not to the last", FAR, () -> y.bound(first, 13));
        }
        Due.is("of the same", y.bound(0, 0), 0);
        y.clause(2 * y.atMost(0, 13, 20), -1, -1);
        Due.fails("there is no model", STATE, () -> y.bound(13, 0));
        Due.fails("there is no model, of the same", STATE, () -> y.bound(0, 0));
        Due.fails("there is no model, and no term", ELEMENT, () -> y.bound(0, 14));
    }

    private static void boundsInCircles() {
        Congruary x = withTerms(4);
        x.clause(2 * x.atMost(1, 2, 20), -1, -1);
        x.clause(2 * x.atMost(2, 1, -20), -1, -1);
        Due.is("as much as at most", x.bound(1, 2), 20);
        Due.is("the other way", x.bound(2, 1), -20);
        Due.fails("of a value that nothing is told of", FAR, () -> x.bound(1, 3));
        x.push();
        x.clause(2 * x.atMost(2, 1, -20) + 1, -1, -1);
        Due.fails("there is no model", STATE, () -> x.bound(1, 2));
        x.pop();
        x.clause(2 * x.atMost(3, 2, 0), 2 * x.atMost(3, 1, -1), -1);
        Due.is("the greater one of two ways", x.bound(3, 2), 19);
        Due.is("and from the other", x.bound(3, 1), -1);
        x.clause(2 * x.equal(3, 1) + 1, 2 * x.equal(1, 2) + 1, -1);
        Due.is("what is kept already", x.bound(3, 1), -1);
    }

    /** "All terms that are values have numbers from 0 on"; the greatest is 21 times 13. */
    private static void numbersOfModel() {
        Congruary x = new Congruary();
        for (int n = 0; n < 14; n++) x.constant();
        for (int n = 0; n < 13; n++) x.clause(2 * x.atMost(n, n + 1, 20) + 1, -1, -1);
        for (int n = 0; n < 14; n++) Due.is("valueOf " + n, x.valueOf(n), 21 * (13 - n));
        Due.is("meanValue", x.meanValue(), 136.5);
        Due.is("the last has the least number", x.valueOf(13), 0);
        int[] far = {LEAST, -1, 0, 1, 273, 274, GREATEST};
        for (int at : far) Due.is("functionAt " + at, x.functionAt(0, at, at), 0);
        Congruary y = withTerms(3);
        y.read(0, 1);
        y.apply(0, 1, -1);
        y.apply(3, 1, 1);
        y.clause(2 * y.atMost(2, 3, -20), -1, -1);
        y.clause(2 * y.atMost(2, 4, -7), -1, -1);
        y.clause(2 * y.atMost(2, 5, -9), -1, -1);
        for (int at : far) {
            Due.is("entry " + at, y.entry(0, at), at == 0 ? 20 : 0);
            Due.is("functionAt 0 " + at, y.functionAt(0, at, at), at == 0 ? 7 : 0);
            Due.is("functionAt 0 0 " + at, y.functionAt(0, 0, at), 7);
            Due.is("functionAt 3 0 " + at, y.functionAt(3, 0, at), at == 0 ? 9 : 0);
            Due.is("functionAt 3 " + at, y.functionAt(3, at, 0), at == 0 ? 9 : 0);
        }
        modelOfAllTerms(far);
    }

    /** With 14 terms there is none behind the last in which the model could look. */
    private static void modelOfAllTerms(int[] far) {
        Congruary x = withTerms(14);
        for (int at : far) {
            Due.is("entry " + at + ", nothing is read", x.entry(0, at), 0);
            Due.is("functionAt 1 " + at + ", nothing is applied", x.functionAt(1, at, -1), 0);
        }
        Congruary y = withTerms(13);
        int last = y.read(0, 12);
        y.clause(2 * y.atMost(1, last, -3), -1, -1);
        for (int at : far) Due.is("entry " + at + ", the last is read", y.entry(0, at), at == 0 ? 3 : 0);
        Congruary z = withTerms(13);
        last = z.apply(1, 12, -1);
        z.clause(2 * z.atMost(1, last, -3), -1, -1);
        for (int at : far) Due.is("functionAt 1 " + at + ", the last", z.functionAt(1, at, -1), at == 0 ? 3 : 0);
    }

    private static void indexOfCore() {
        Congruary x = withAtoms();
        for (int n = 0; n < 12; n++) x.clause(2 * n + 22, -1, -1);
        Due.fails("there is no core", STATE, () -> x.coreAt(0));
        Due.fails("there is no core, for -1", STATE, () -> x.coreAt(-1));
        x.clause(0, -1, -1);
        x.clause(1, -1, -1);
        Due.is("core", x.core(), 2);
        Due.is("coreAt(0)", x.coreAt(0), 12);
        Due.is("coreAt(1)", x.coreAt(1), 13);
        for (int index : new int[] {LEAST, -1, 2, 3, 13, 14, 32, GREATEST}) {
            Due.fails("coreAt " + index, INDEX, () -> x.coreAt(index));
        }
        Congruary all = new Congruary();
        for (int n = 0; n < 14; n++) all.constant();
        for (int n = 0; n < 14; n++) all.clause(2 * all.atMost(n, (n + 1) % 14, n == 0 ? -1 : 0), -1, -1);
        Due.is("all 14", all.core(), 14);
        Due.is("the share of all", all.coreShare(), 1f);
        for (int n = 0; n < 14; n++) Due.is("coreAt " + n, all.coreAt(n), n);
        Due.fails("coreAt 14", INDEX, () -> all.coreAt(14));
        Due.is("isSound", all.isSound(), true);
    }

    private static void indexOfReasons() {
        Congruary x = new Congruary();
        for (int n = 0; n < 14; n++) x.constant();
        for (int n = 0; n < 13; n++) x.clause(2 * x.atMost(n, n + 1, 0), -1, -1);
        int far = 2 * x.atMost(0, 13, 0);
        int same = 2 * x.equal(3, 3);
        int other = 2 * x.equal(3, 4);
        Due.is("all 13", x.reasons(far), 13);
        for (int n = 0; n < 13; n++) Due.is("reasonAt " + n, x.reasonAt(far, n), n);
        Due.is("none", x.reasons(same), 0);
        for (int index : new int[] {LEAST, -1, 13, 14, 32, GREATEST}) {
            Due.fails("reasonAt " + index, INDEX, () -> x.reasonAt(far, index));
            Due.fails("reasonAt of none " + index, INDEX, () -> x.reasonAt(same, index));
            Due.fails("reasonAt of what does not follow " + index, STATE, () -> x.reasonAt(other, index));
        }
        Due.fails("reasonAt of none 0", INDEX, () -> x.reasonAt(same, 0));
        Due.is("clause 13", x.clause(far, -1, -1), 13);
        Due.is("it is enough", x.reasons(far), 1);
        Due.is("it is told last", x.reasonAt(far, 0), 13);
    }

    private static void figures() {
        Congruary x = withTerms(3);
        x.equal(1, 2);
        for (int n = 1; n <= 14; n++) {
            x.clause(0, 0, 0);
            Due.is("trueLiterals", x.trueLiterals(), 3L * n);
        }
        Congruary y = withTerms(2);
        y.equal(1, 1);
        for (int n = 0; n < 13; n++) y.clause(0, 1, -1);
        Due.is("those that are true alone", y.trueLiterals(), 13L);
        y.clause(1, -1, -1);
        Due.is("coreShare", y.coreShare(), 1f / 14f);
        Due.fails("there is no model", STATE, y::trueLiterals);
        Due.fails("there is no model for a mean", STATE, y::meanValue);
        y.push();
        Due.fails("there is still none", STATE, y::meanValue);
    }

    /** "An object is used for at most 512 calls after it has been made": the last ones still answer what is due. */
    private static void manyCalls() {
        Congruary x = withTerms(14);
        int calls = 14;
        for (int n = 0; n < 12; n++) {
            x.clause(2 * x.atMost(n + 1, n + 2, n % 3 - 1), -1, -1);
            calls += 2;
        }
        for (int n = 0; calls + 7 < 512; n++) {
            int at = n % 12 + 1;
            Due.is("push", x.push(), 1);
            int back = x.atMost(at + 1, at, -1);
            x.clause(2 * back, -1, -1);
            Due.is("check", x.check(), at % 3 == 0);
            Due.is("another one", x.follows(2 * back), true);
            Due.is("pop", x.pop(), 12);
            Due.is("bound", x.bound(at, at + 1), (at - 1) % 3 - 1);
            calls += 7;
        }
        for (int n = calls; n < 512; n++) Due.is("isSound", x.isSound(), true);
    }
}
