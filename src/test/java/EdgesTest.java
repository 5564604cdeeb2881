/** Edges of what atoms, clauses, rules, explanations, the model and classes are, as the document tells them. */
public final class EdgesTest {
    private static final Class<IllegalStateException> STATE = IllegalStateException.class;
    private static final Class<IndexOutOfBoundsException> INDEX = IndexOutOfBoundsException.class;
    private static final Class<UnsupportedOperationException> FAR = UnsupportedOperationException.class;

    public static void main(String[] args) {
        contraries();
        wholeNumbers();
        eachTwoValues();
        equalOnlyForEqual();
        undoneForTermsThatAreThere();
        orderForGreater();
        exchangedForTwo();
        writesOverWrites();
        entriesOfTheModel();
        functionsOfTheModel();
        leastNumbers();
        coreByRisingNumbers();
        reasonsByRisingNumbers();
        allFollowsWithoutModel();
        classesByEitherWay();
        figuresOfTheModel();
        Due.end();
    }

    private static Congruary withConstants(int count) {
        Congruary x = new Congruary();
        for (int n = 0; n < count; n++) x.constant();
        return x;
    }

    /** The contrary of "at most" is "more than", that of "equal" is less or more. */
    private static void contraries() {
        for (int most = -20; most <= 20; most++) {
            Congruary x = withConstants(2);
            int atMost = 2 * x.atMost(0, 1, most);
            x.clause(atMost + 1, -1, -1);
            x.clause(2 * x.atMost(0, 1, Math.min(20, most + 1)), atMost, -1);
            boolean between = most < 20;
            Due.is("more than " + most + " and at most one more", x.check(), between);
            if (between) Due.is("the difference", x.valueOf(0) - x.valueOf(1), most + 1);
        }
        Congruary x = withConstants(2);
        x.clause(2 * x.equal(0, 1) + 1, -1, -1);
        x.push();
        x.clause(2 * x.atMost(0, 1, 0), -1, -1);
        Due.is("apart and at most", x.bound(0, 1), -1);
        x.clause(2 * x.atMost(1, 0, 0), -1, -1);
        Due.is("apart and the same", x.check(), false);
        x.pop();
        Due.is("less or more", x.check(), true);
        Due.fails("not bounded by less", FAR, () -> x.bound(0, 1));
        Due.fails("not bounded by more", FAR, () -> x.bound(1, 0));
    }

    /** Between two whole numbers that differ by 1 there is none; there is no least whole number. */
    private static void wholeNumbers() {
        Congruary x = withConstants(3);
        x.clause(2 * x.atMost(0, 1, -1), -1, -1);
        x.clause(2 * x.atMost(1, 2, -1), -1, -1);
        int two = 2 * x.atMost(0, 2, -2);
        Due.is("two steps are 2", x.follows(two), true);
        x.push();
        x.clause(2 * x.atMost(2, 0, 1), -1, -1);
        Due.is("there is no place between", x.check(), false);
        x.pop();
        x.clause(2 * x.atMost(2, 0, 2), -1, -1);
        Due.is("there is one place between", x.check(), true);
        Congruary y = withConstants(14);
        for (int n = 0; n < 13; n++) y.clause(2 * y.atMost(n + 1, n, -20), -1, -1);
        Due.is("always less", y.check(), true);
        Due.is("the first of them", y.valueOf(0), 260);
        Due.is("the last of them", y.valueOf(13), 0);
    }

    /** Rules hold for each two values, whichever is made first, and whether they are told ahead of the terms or not. */
    private static void eachTwoValues() {
        for (int ahead = 0; ahead < 2; ahead++) {
            for (int order = 0; order < 2; order++) {
                Congruary x = withConstants(2);
                if (ahead == 1) x.rule('m', 0);
                int first = x.apply(0, order, -1);
                int second = x.apply(0, 1 - order, -1);
                if (ahead == 0) x.rule('m', 0);
                x.clause(2 * x.atMost(order, 1 - order, -1), -1, -1);
                Due.is("in the order of the arguments", x.bound(first, second), 0);
                Due.fails("not the other way", FAR, () -> x.bound(second, first));
            }
        }
        Congruary x = withConstants(3);
        int[] values = {x.apply(1, 0, -1), x.apply(1, 1, -1), x.apply(1, 2, -1)};
        x.rule('i', 1);
        for (int n = 0; n < 3; n++) {
            for (int m = 0; m < 3; m++) {
                x.push();
                x.clause(2 * x.equal(values[n], values[m]), -1, -1);
                Due.is("values " + n + " and " + m, x.classOf(Math.max(n, m)), Math.min(n, m));
                x.pop();
            }
        }
    }

    /** 'i': "values of it are equal only if their arguments are"; of one function alone. */
    private static void equalOnlyForEqual() {
        Congruary x = withConstants(2);
        int f0 = x.apply(0, 0, -1);
        int f1 = x.apply(0, 1, -1);
        int g1 = x.apply(1, 1, -1);
        int ff0 = x.apply(0, f0, -1);
        int ff1 = x.apply(0, f1, -1);
        x.rule('i', 0);
        int same = 2 * x.equal(0, 1);
        x.push();
        x.clause(2 * x.equal(f0, g1), -1, -1);
        Due.is("values of two functions", x.follows(same), false);
        x.pop();
        x.push();
        x.clause(2 * x.equal(ff0, ff1), -1, -1);
        Due.is("values of values", x.follows(same), true);
        Due.is("for this reason", x.reasons(same), 1);
        x.pop();
        x.clause(same + 1, -1, -1);
        Due.is("apart for apart", x.follows(2 * x.equal(f0, f1) + 1), true);
        Due.is("and for these", x.follows(2 * x.equal(ff0, ff1) + 1), true);
        Due.is("not for the other function", x.follows(2 * x.equal(f0, g1) + 1), false);
        Due.is("an argument may be its value", x.follows(2 * x.equal(0, f0) + 1), false);
    }

    /** 's' is "about each value of it whose argument is a value of it", and about terms that are there alone. */
    private static void undoneForTermsThatAreThere() {
        Congruary x = withConstants(2);
        int f0 = x.apply(0, 0, -1);
        int f1 = x.apply(0, 1, -1);
        x.apply(0, f0, -1);
        x.rule('s', 0);
        int same = 2 * x.equal(0, 1);
        x.clause(2 * x.equal(f0, f1), -1, -1);
        Due.is("f(f(1)) is not there", x.follows(same), false);
        x.push();
        int ff1 = x.apply(0, f1, -1);
        Due.is("f(f(1)) is there", x.follows(same), true);
        Due.is("f(f(1)) = 1", x.follows(2 * x.equal(ff1, 1)), true);
        Due.is("without a reason", x.reasons(2 * x.equal(ff1, 1)), 0);
        x.pop();
        Due.is("f(f(1)) is not there again", x.follows(same), false);
        int g = x.apply(1, f0, -1);
        int gg = x.apply(1, g, -1);
        Due.is("a value of another function", x.follows(2 * x.equal(g, 0)), false);
        Due.is("another function", x.follows(2 * x.equal(gg, f0)), false);
        x.rule('s', 1);
        Due.is("with a rule of its own", x.follows(2 * x.equal(gg, f0)), true);
        Due.is("its argument is of another function", x.follows(2 * x.equal(g, 0)), false);
    }

    /** 'm': "its value for an argument is not greater than that for a greater argument". */
    private static void orderForGreater() {
        Congruary x = withConstants(2);
        int f0 = x.apply(0, 0, -1);
        int f1 = x.apply(0, 1, -1);
        x.rule('m', 0);
        int less = 2 * x.atMost(0, 1, -1);
        x.push();
        x.clause(2 * x.atMost(f0, f1, -1), -1, -1);
        Due.is("a less value has a less argument", x.follows(less), true);
        x.pop();
        x.push();
        x.clause(2 * x.equal(f0, f1), -1, -1);
        Due.is("the same value may have any", x.classes(), 3);
        x.pop();
        x.push();
        x.clause(2 * x.atMost(0, 1, 0), -1, -1);
        Due.is("at most for at most", x.bound(f0, f1), 0);
        x.pop();
        x.clause(less, -1, -1);
        Due.is("at most for less", x.bound(f0, f1), 0);
        x.rule('i', 0);
        Due.is("less for less with 'i'", x.bound(f0, f1), -1);
        x.clause(2 * x.atMost(f1, f0, 0), -1, -1);
        Due.is("not at most", x.check(), false);
        Due.is("by both clauses", x.core(), 2);
    }

    /** 'c': "its value stays the same if its arguments are exchanged". */
    private static void exchangedForTwo() {
        Congruary x = withConstants(2);
        int there = x.apply(3, 0, 1);
        int same = x.apply(3, 0, 0);
        int back = x.apply(3, 1, 0);
        int other = x.apply(2, 1, 0);
        x.rule('c', 3);
        Due.is("exchanged", x.classOf(back), there);
        Due.is("one argument twice", x.classOf(same), same);
        Due.is("another function", x.classOf(other), other);
        x.clause(2 * x.equal(there, back) + 1, 2 * x.equal(0, 1), -1);
        Due.is("one argument twice, if both are the same", x.classOf(same), there);
        Due.is("classes", x.classes(), 3);
        Congruary alone = withConstants(2);
        alone.apply(2, 0, 1);
        alone.rule('c', 2);
        alone.clause(2 * alone.atMost(0, 1, -1), -1, -1);
        alone.clause(2 * alone.atMost(1, 2, -1), -1, -1);
        Due.is("h(0, 1)", alone.functionAt(2, 0, 1), 2);
        Due.is("h(1, 0), whatever a rule would tell", alone.functionAt(2, 1, 0), 0);
    }

    /** "An array that is another one but for an index, where it has a told value." */
    private static void writesOverWrites() {
        Congruary x = withConstants(4);
        int array = x.array();
        int once = x.write(array, 0, 1);
        int twice = x.write(once, 0, 2);
        int third = x.write(twice, 3, 3);
        int ofOnce = x.read(once, 0);
        int ofTwice = x.read(twice, 0);
        int ofThird = x.read(third, 0);
        int ofArray = x.read(array, 0);
        Due.is("told first", x.classOf(ofOnce), 1);
        Due.is("told anew", x.classOf(ofTwice), 2);
        Due.is("told anew or at another index", x.classOf(ofThird), ofThird);
        Due.is("the first array has its own", x.classOf(ofArray), ofArray);
        int apart = 2 * x.equal(0, 3) + 1;
        x.push();
        x.clause(apart, -1, -1);
        Due.is("another index keeps it", x.classOf(ofThird), 2);
        x.pop();
        x.clause(apart - 1, -1, -1);
        Due.is("the same index does not", x.classOf(ofThird), 0);
        Congruary y = withConstants(2);
        int read = y.read(y.array(), 0);
        int same = y.write(2, 0, read);
        int kept = y.read(same, 1);
        int had = y.read(2, 1);
        Due.is("told what it has, it has the same", y.classOf(kept), Math.min(kept, had));
        Due.is("and at the other index", y.classOf(had), Math.min(kept, had));
        Due.is("with no clause", y.reasons(2 * y.equal(kept, had)), 0);
    }

    /** A constant array has what a term has "that is the value of an array at an index with this number". */
    private static void entriesOfTheModel() {
        Congruary x = withConstants(3);
        int array = x.array();
        int written = x.write(array, 0, 1);
        int other = x.array();
        int same = x.read(written, 0);
        int kept = x.read(written, 2);
        x.clause(2 * x.atMost(0, 1, -7), -1, -1);
        x.clause(2 * x.atMost(0, 2, -2), -1, -1);
        x.clause(2 * x.atMost(0, kept, -4), -1, -1);
        Due.is("valueOf(same)", x.valueOf(same), 7);
        Due.is("valueOf(kept)", x.valueOf(kept), 4);
        Due.is("the told value", x.entry(written, 0), 7);
        Due.is("it is not of the other one", x.entry(array, 0), 0);
        Due.is("what the other one has", x.entry(written, 2), 4);
        Due.is("it comes from it", x.entry(array, 2), 4);
        Due.is("an index that no term has", x.entry(written, 1), 0);
        Due.is("an index below 0", x.entry(written, -1), 0);
        Due.is("an array that nothing is told of", x.entry(other, 2), 0);
        x.clause(2 * x.equal(0, 2), 2 * x.atMost(2, 0, 2), -1);
        Due.is("the same model", x.entry(array, 2), 4);
        int direct = x.read(array, 0);
        x.clause(2 * x.atMost(kept, direct, -5), -1, -1);
        Due.is("the other one has its own", x.entry(array, 0), 9);
        Due.is("the told value is kept", x.entry(written, 0), 7);
        Due.is("isSound", x.isSound(), true);
    }

    /** "A function has for arguments the value of a term that is its value for terms with these numbers". */
    private static void functionsOfTheModel() {
        Congruary x = withConstants(3);
        int first = x.apply(2, 0, 1);
        int second = x.apply(2, 1, 0);
        int third = x.apply(2, 2, 1);
        x.clause(2 * x.atMost(0, 1, -1), -1, -1);
        x.clause(2 * x.equal(0, 2), -1, -1);
        x.clause(2 * x.atMost(1, first, -2), -1, -1);
        x.clause(2 * x.atMost(first, second, -2), -1, -1);
        Due.is("h(0, 1)", x.functionAt(2, 0, 1), 3);
        Due.is("h(1, 0)", x.functionAt(2, 1, 0), 5);
        Due.is("h(1, 1)", x.functionAt(2, 1, 1), 0);
        Due.is("h(0, 0)", x.functionAt(2, 0, 0), 0);
        Due.is("h(-1, 1)", x.functionAt(2, -1, 1), 0);
        Due.is("two terms with these numbers", x.valueOf(third), 3);
        Due.is("another function", x.functionAt(3, 0, 1), 0);
        Due.is("isSound", x.isSound(), true);
    }

    /** "The value with the lowest number has the least number that it has in any of them", and so on. */
    private static void leastNumbers() {
        Congruary x = withConstants(3);
        int f0 = x.apply(0, 0, -1);
        int f1 = x.apply(0, 1, -1);
        x.clause(2 * x.equal(f0, f1) + 1, -1, -1);
        int[] apart = {0, 1, 0, 0, 1};
        for (int n = 0; n < 5; n++) Due.is("apart for apart, " + n, x.valueOf(n), apart[n]);
        x.clause(2 * x.atMost(2, 0, -3), 2 * x.atMost(2, 1, -3), -1);
        int[] later = {0, 3, 0, 0, 1};
        for (int n = 0; n < 5; n++) Due.is("the second pays, " + n, x.valueOf(n), later[n]);
        x.clause(2 * x.atMost(1, 0, 1), -1, -1);
        int[] both = {2, 3, 0, 0, 1};
        for (int n = 0; n < 5; n++) Due.is("the first pays no more than needed, " + n, x.valueOf(n), both[n]);
        x.clause(2 * x.atMost(f1, f0, 0), -1, -1);
        Due.is("the values are exchanged", x.valueOf(f0), 1);
        Due.is("the other one", x.valueOf(f1), 0);
        Congruary y = withConstants(2);
        y.array();
        y.constant();
        y.clause(2 * y.equal(0, 1) + 1, -1, -1);
        y.clause(2 * y.equal(1, 3) + 1, -1, -1);
        y.clause(2 * y.equal(0, 3) + 1, -1, -1);
        int[] three = {0, 1, -1, 2};
        for (int n = 0; n < 4; n++) if (n != 2) Due.is("three apart, " + n, y.valueOf(n), three[n]);
        y.clause(2 * y.atMost(3, 1, 0), -1, -1);
        Due.is("in another order", y.valueOf(1), 2);
        Due.is("the last between", y.valueOf(3), 1);
    }

    /** The core is what is left if clauses are left out by rising numbers; it need not be the smallest one. */
    private static void coreByRisingNumbers() {
        Congruary x = withConstants(4);
        int one = 2 * x.equal(0, 1);
        int two = 2 * x.equal(2, 3);
        x.clause(one + 1, -1, -1);
        x.clause(one, -1, -1);
        x.clause(two + 1, one, -1);
        x.clause(two, -1, -1);
        Due.is("three and not two", x.core(), 3);
        Due.is("coreAt(0)", x.coreAt(0), 0);
        Due.is("coreAt(1)", x.coreAt(1), 2);
        Due.is("coreAt(2)", x.coreAt(2), 3);
        Due.is("coreShare", x.coreShare(), 3f / 4f);
        x.clause(one, one + 1, -1);
        Due.is("a clause that is always kept is left out", x.core(), 3);
        Due.is("but counts for the share", x.coreShare(), 3f / 5f);
        x.clause(one, -1, -1);
        Due.is("a later one", x.core(), 2);
        Due.is("with the first", x.coreAt(0), 0);
        Due.is("is enough", x.coreAt(1), 5);
        x.rule('s', 0);
        Due.is("rules are not left out, nor counted", x.core(), 2);
        Due.is("isSound", x.isSound(), true);
    }

    private static void reasonsByRisingNumbers() {
        Congruary x = withConstants(4);
        int one = 2 * x.equal(0, 1);
        int two = 2 * x.equal(2, 3);
        x.clause(one, -1, -1);
        x.clause(two + 1, one, -1);
        Due.is("one", x.reasons(one), 1);
        x.clause(two, -1, -1);
        Due.is("the later two", x.reasons(one), 2);
        Due.is("reasonAt(0)", x.reasonAt(one, 0), 1);
        Due.is("reasonAt(1)", x.reasonAt(one, 1), 2);
        Due.fails("reasonAt(2)", INDEX, () -> x.reasonAt(one, 2));
        Due.is("of another literal", x.reasonAt(two, 0), 2);
        Due.fails("of its contrary", STATE, () -> x.reasons(two + 1));
        x.clause(one, two + 1, -1);
        Due.is("the last of the same", x.reasonAt(one, 1), 3);
        Due.is("a rule needs no reason", x.rule('i', 0), 1);
        Due.is("still two", x.reasons(one), 2);
    }

    /** "Each one does if there is no such interpretation", with reasons that are found in the same way. */
    private static void allFollowsWithoutModel() {
        Congruary x = withConstants(3);
        int same = 2 * x.equal(0, 1);
        int other = 2 * x.equal(1, 2);
        x.clause(same, -1, -1);
        x.clause(other + 1, -1, -1);
        x.clause(same + 1, -1, -1);
        Due.is("core", x.core(), 2);
        for (int literal = 0; literal < 4; literal++) Due.is("follows " + literal, x.follows(literal), true);
        Due.is("the first", x.reasonAt(same, 0), 0);
        Due.is("is enough", x.reasons(same), 1);
        Due.is("its contrary", x.reasonAt(same + 1, 0), 2);
        Due.is("the contrary is enough", x.reasons(same + 1), 1);
        Due.is("of what is told", x.reasonAt(other + 1, 0), 1);
        Due.is("the clauses ahead of it are left out first", x.reasons(other + 1), 1);
        Due.is("of what is told the other way", x.reasons(other), 2);
        Due.is("the first and", x.reasonAt(other, 0), 0);
        Due.is("the last", x.reasonAt(other, 1), 2);
        Due.is("isSound", x.isSound(), true);
    }

    /** "Two values are in the same class if that they are equal follows." */
    private static void classesByEitherWay() {
        Congruary x = withConstants(4);
        int f0 = x.apply(0, 0, -1);
        int f3 = x.apply(0, 3, -1);
        x.clause(2 * x.equal(0, 1), 2 * x.equal(2, 3), -1);
        Due.is("either is the same", x.classes(), 6);
        x.clause(2 * x.equal(0, 1), 2 * x.equal(0, 3), -1);
        x.clause(2 * x.equal(0, 3), 2 * x.equal(1, 3) + 1, -1);
        Due.is("still open", x.classOf(3), 3);
        x.clause(2 * x.equal(1, 3), -1, -1);
        Due.is("by both ways", x.classOf(3), 0);
        Due.is("by what is told", x.classOf(1), 0);
        Due.is("values for the same", x.classOf(f3), f0);
        Due.is("alone", x.classOf(2), 2);
        Due.is("classes", x.classes(), 3);
        Congruary all = withConstants(14);
        for (int n = 0; n < 13; n++) all.clause(2 * all.equal(n + 1, n), -1, -1);
        Due.is("one class of all", all.classes(), 1);
        for (int n = 0; n < 14; n++) Due.is("its lowest", all.classOf(n), 0);
    }

    private static void figuresOfTheModel() {
        Congruary x = withConstants(3);
        int less = 2 * x.atMost(0, 1, -1);
        int same = 2 * x.equal(0, 2);
        Due.is("no literals", x.trueLiterals(), 0L);
        x.clause(less, -1, -1);
        x.clause(same, same, less);
        Due.is("one, and three", x.trueLiterals(), 4L);
        x.clause(less + 1, same + 1, same);
        Due.is("and one of three", x.trueLiterals(), 5L);
        Due.is("a third", x.meanValue(), 1.0 / 3.0);
        x.array();
        Due.is("an array is no value", x.meanValue(), 1.0 / 3.0);
        x.constant();
        Due.is("a quarter", x.meanValue(), 0.25);
        Due.is("isTrue", x.isTrue(same), true);
        Due.is("isTrue of its contrary", x.isTrue(same + 1), false);
        Due.is("it is true, but does not follow", x.follows(same), false);
    }
}
