import java.util.NoSuchElementException;

/** Promises 17 to 25: answers, explanations, bounds and classes. */
public final class AnswersTest {
    private static final Class<IllegalStateException> STATE = IllegalStateException.class;
    private static final Class<NoSuchElementException> ELEMENT = NoSuchElementException.class;
    private static final Class<IndexOutOfBoundsException> INDEX = IndexOutOfBoundsException.class;
    private static final Class<UnsupportedOperationException> FAR = UnsupportedOperationException.class;

    public static void main(String[] args) {
        check();
        checkManyOrders();
        core();
        coreAt();
        follows();
        reasons();
        reasonAt();
        bound();
        farBound();
        classOf();
        classes();
        Due.end();
    }

    /** Values 0 to 2 in a row, and literals 0 and 2 that each is less than the next, 4 that the last is least. */
    private static Congruary row() {
        Congruary x = new Congruary();
        for (int n = 0; n < 3; n++) x.constant();
        x.atMost(0, 1, -1);
        x.atMost(1, 2, -1);
        x.atMost(2, 0, -1);
        return x;
    }

    private static void check() {
        Congruary x = row();
        Due.is("nothing is asserted", x.check(), true);
        x.clause(0, -1, -1);
        x.clause(2, -1, -1);
        Due.is("a row", x.check(), true);
        x.push();
        x.clause(4, -1, -1);
        Due.is("a circle", x.check(), false);
        x.pop();
        Due.is("a row again", x.check(), true);
        x.clause(4, 1, -1);
        Due.is("one of both is a contrary", x.check(), false);
        Congruary two = new Congruary();
        for (int n = 0; n < 3; n++) two.constant();
        for (int n = 1; n < 3; n++) {
            two.clause(2 * two.atMost(n, 0, 1), -1, -1);
            two.clause(2 * two.atMost(0, n, 0), -1, -1);
            two.clause(2 * two.equal(0, n) + 1, -1, -1);
        }
        Due.is("two in one place", two.check(), true);
        two.clause(2 * two.equal(1, 2) + 1, -1, -1);
        Due.is("two apart in one place", two.check(), false);
        Due.is("all clauses are needed but that they are not less", two.core(), 7);
    }

    /** Thirteen values of a function that are all apart, which can be ordered in very many ways. */
    private static void checkManyOrders() {
        Congruary x = new Congruary();
        x.constant();
        for (int n = 0; n < 12; n++) x.apply(0, n, -1);
        x.rule('i', 0);
        for (int n = 1; n < 13; n++) x.clause(2 * x.equal(0, n) + 1, -1, -1);
        Due.is("all apart", x.check(), true);
        Due.is("classes", x.classes(), 13);
        for (int n = 0; n < 13; n++) Due.is("the least numbers", x.valueOf(n), n);
        Due.is("any two are apart", x.follows(2 * x.equal(3, 11) + 1), true);
        Due.is("by the clause that tells how far", x.reasonAt(2 * x.equal(3, 11) + 1, 0), 7);
        x.clause(2 * x.equal(12, 5), -1, -1);
        Due.is("two the same", x.check(), false);
        Due.is("core", x.core(), 2);
        Due.is("coreAt(0)", x.coreAt(0), 6);
        Due.is("coreAt(1)", x.coreAt(1), 12);
    }

    private static void core() {
        Congruary x = row();
        Due.fails("there is none", STATE, x::core);
        x.clause(0, -1, -1);
        x.clause(2, -1, -1);
        Due.fails("there is still none", STATE, x::core);
        x.clause(4, -1, -1);
        Due.is("all three", x.core(), 3);
        x.clause(1, -1, -1);
        Due.is("the first and its contrary", x.core(), 2);
        Due.is("the first", x.coreAt(0), 0);
        Due.is("its contrary", x.coreAt(1), 3);
        x.clause(0, -1, -1);
        Due.is("those that come later are left", x.core(), 2);
        Due.is("the contrary", x.coreAt(0), 3);
        Due.is("the same as the first", x.coreAt(1), 4);
    }

    private static void coreAt() {
        Congruary x = row();
        Due.fails("there is none", STATE, () -> x.coreAt(0));
        Due.fails("there is none for -1", STATE, () -> x.coreAt(-1));
        x.clause(2, 3, -1);
        x.clause(0, -1, -1);
        x.clause(2, -1, -1);
        x.clause(2, -1, -1);
        x.clause(4, -1, -1);
        Due.is("core", x.core(), 3);
        Due.is("coreAt(0)", x.coreAt(0), 1);
        Due.is("coreAt(1)", x.coreAt(1), 3);
        Due.is("coreAt(2)", x.coreAt(2), 4);
        Due.fails("coreAt(3)", INDEX, () -> x.coreAt(3));
        Due.fails("coreAt(-1)", INDEX, () -> x.coreAt(-1));
        Due.fails("coreAt(least)", INDEX, () -> x.coreAt(Integer.MIN_VALUE));
        Due.fails("coreAt(greatest)", INDEX, () -> x.coreAt(Integer.MAX_VALUE));
    }

    private static void follows() {
        Congruary x = row();
        Due.is("nothing follows", x.follows(0), false);
        Due.is("nor its contrary", x.follows(1), false);
        x.clause(0, -1, -1);
        x.clause(2, -1, -1);
        Due.is("what is asserted", x.follows(0), true);
        Due.is("its contrary", x.follows(1), false);
        Due.is("what comes of it", x.follows(5), true);
        int far = x.atMost(0, 2, -2);
        Due.is("as far", x.follows(2 * far), true);
        Due.is("farther", x.follows(2 * x.atMost(0, 2, -3)), false);
        x.clause(4, -1, -1);
        Due.is("all follows", x.follows(0), true);
        Due.is("and its contrary", x.follows(1), true);
        Due.fails("follows(-1)", ELEMENT, () -> x.follows(-1));
        Due.fails("follows(10)", ELEMENT, () -> x.follows(10));
        Due.is("follows(9)", x.follows(9), true);
        Congruary none = new Congruary();
        Due.fails("there are no atoms", ELEMENT, () -> none.follows(0));
    }

    private static void reasons() {
        Congruary x = row();
        x.clause(0, -1, -1);
        Due.fails("it does not follow", STATE, () -> x.reasons(5));
        x.clause(2, -1, -1);
        Due.is("both", x.reasons(5), 2);
        Due.is("one", x.reasons(2), 1);
        x.clause(5, -1, -1);
        Due.is("the last is enough", x.reasons(5), 1);
        Due.is("one of the same", x.reasons(2 * x.atMost(0, 0, 0)), 0);
        Due.fails("its contrary", STATE, () -> x.reasons(2 * x.atMost(0, 0, 0) + 1));
        Due.fails("no atom", ELEMENT, () -> x.reasons(8));
        Due.fails("-1", ELEMENT, () -> x.reasons(-1));
        x.clause(4, -1, -1);
        Due.is("what follows of what cannot be", x.reasons(0), 2);
    }

    private static void reasonAt() {
        Congruary x = row();
        x.clause(5, 3, -1);
        x.clause(0, -1, -1);
        x.clause(2, -1, -1);
        Due.is("reasonAt(5, 0)", x.reasonAt(5, 0), 1);
        Due.is("reasonAt(5, 1)", x.reasonAt(5, 1), 2);
        Due.fails("reasonAt(5, 2)", INDEX, () -> x.reasonAt(5, 2));
        Due.fails("reasonAt(5, -1)", INDEX, () -> x.reasonAt(5, -1));
        Due.fails("it does not follow", STATE, () -> x.reasonAt(4, 0));
        Due.fails("it does not follow, for -1", STATE, () -> x.reasonAt(4, -1));
        Due.fails("no atom", ELEMENT, () -> x.reasonAt(6, 0));
        Due.fails("no atom, for -1", ELEMENT, () -> x.reasonAt(-1, -1));
        Due.is("another literal", x.reasonAt(0, 0), 1);
        Due.is("the first again", x.reasonAt(5, 1), 2);
        x.push();
        x.clause(5, -1, -1);
        Due.is("with another clause", x.reasonAt(5, 0), 3);
        x.pop();
        Due.is("without it", x.reasonAt(5, 0), 1);
    }

    private static void bound() {
        Congruary x = row();
        x.array();
        Due.is("of the same", x.bound(1, 1), 0);
        Due.fails("nothing is told", FAR, () -> x.bound(0, 1));
        x.clause(0, -1, -1);
        x.clause(2, -1, -1);
        Due.is("a step", x.bound(0, 1), -1);
        Due.is("two steps", x.bound(0, 2), -2);
        Due.fails("the other way", FAR, () -> x.bound(2, 0));
        x.clause(2 * x.atMost(2, 0, 7), 2 * x.atMost(2, 0, 9), -1);
        Due.is("the greater one of two", x.bound(2, 0), 9);
        Due.is("less a step", x.bound(1, 0), 8);
        x.clause(2 * x.atMost(2, 0, 8), 2 * x.equal(1, 2), -1);
        Due.is("8", x.bound(2, 0), 8);
        Due.fails("of an array", ELEMENT, () -> x.bound(3, 0));
        Due.fails("and an array", ELEMENT, () -> x.bound(0, 3));
        Due.fails("of no term", ELEMENT, () -> x.bound(4, 0));
        Due.fails("and no term", ELEMENT, () -> x.bound(0, -1));
        x.clause(4, -1, -1);
        Due.fails("there is no model", STATE, () -> x.bound(0, 1));
        Due.fails("there is no model for an array", ELEMENT, () -> x.bound(0, 3));
    }

    private static void farBound() {
        Congruary x = new Congruary();
        for (int n = 0; n < 14; n++) x.constant();
        for (int n = 0; n < 13; n++) x.clause(2 * x.atMost(n, n + 1, 20), -1, -1);
        Due.is("as far as can be", x.bound(0, 13), 260);
        Due.fails("the other way", FAR, () -> x.bound(13, 0));
        Congruary y = new Congruary();
        for (int n = 0; n < 14; n++) y.constant();
        for (int n = 0; n < 13; n++) y.clause(2 * y.atMost(n, n + 1, 20) + 1, -1, -1);
        Due.is("as near as can be", y.bound(13, 0), -273);
        Due.fails("the other way", FAR, () -> y.bound(0, 13));
        Due.is("its number", y.valueOf(0), 273);
    }

    private static void classOf() {
        Congruary x = new Congruary();
        x.array();
        for (int n = 0; n < 4; n++) x.constant();
        Due.is("alone", x.classOf(4), 4);
        x.clause(2 * x.equal(4, 2), -1, -1);
        x.clause(2 * x.equal(3, 4), 2 * x.equal(3, 2), -1);
        Due.is("told the same", x.classOf(4), 2);
        Due.is("the same by either way", x.classOf(3), 2);
        Due.is("the lowest of them", x.classOf(2), 2);
        Due.is("the same number in the model only", x.classOf(1), 1);
        Due.fails("of an array", ELEMENT, () -> x.classOf(0));
        Due.fails("of no term", ELEMENT, () -> x.classOf(5));
        Due.fails("of -1", ELEMENT, () -> x.classOf(-1));
        x.clause(2 * x.equal(4, 2) + 1, -1, -1);
        Due.fails("there is no model", STATE, () -> x.classOf(1));
        Due.fails("there is no model, of an array", ELEMENT, () -> x.classOf(0));
    }

    private static void classes() {
        Congruary x = new Congruary();
        Due.is("none", x.classes(), 0);
        x.array();
        Due.is("arrays are in none", x.classes(), 0);
        for (int n = 0; n < 4; n++) x.constant();
        Due.is("all alone", x.classes(), 4);
        x.clause(2 * x.atMost(1, 2, 0), -1, -1);
        x.clause(2 * x.atMost(2, 3, 0), -1, -1);
        Due.is("an order is no class", x.classes(), 4);
        x.clause(2 * x.atMost(3, 1, 0), -1, -1);
        Due.is("a circle is one", x.classes(), 2);
        x.read(0, 1);
        x.read(0, 3);
        Due.is("values of an array at it too", x.classes(), 3);
        x.clause(2 * x.equal(1, 3) + 1, -1, -1);
        Due.fails("there is no model", STATE, x::classes);
    }
}
