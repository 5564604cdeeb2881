/** The examples of README.md, with the answers that it tells. */
public final class ReadmeTest {
    public static void main(String[] args) {
        equalities();
        differences();
        arraysAndFrames();
        Due.end();
    }

    private static void equalities() {
        Congruary x = new Congruary();
        int a = x.constant();
        int b = x.constant();
        int fa = x.apply(0, a, -1);
        int fb = x.apply(0, b, -1);
        int same = x.equal(a, b);
        int values = x.equal(fa, fb);
        x.clause(2 * same, -1, -1);
        Due.is("follows", x.follows(2 * values), true);
        Due.is("reasonAt", x.reasonAt(2 * values, 0), 0);
        x.clause(2 * values + 1, -1, -1);
        Due.is("check", x.check(), false);
        Due.is("core", x.core(), 2);
    }

    private static void differences() {
        Congruary y = new Congruary();
        int low = y.constant();
        int high = y.constant();
        int g = y.apply(1, high, -1);
        y.clause(2 * y.atMost(low, high, -3), -1, -1);
        y.clause(2 * y.atMost(high, g, 0) + 1, -1, -1);
        Due.is("bound", y.bound(low, high), -3);
        Due.fails("bound the other way", UnsupportedOperationException.class, () -> y.bound(high, low));
        Due.is("valueOf", y.valueOf(high), 3);
        Due.is("functionAt", y.functionAt(1, 3, -1), 0);
        y.rule('s', 1);
        int back = y.apply(1, g, -1);
        Due.is("classOf", y.classOf(back), 1);
    }

    private static void arraysAndFrames() {
        Congruary z = new Congruary();
        int array = z.array();
        int index = z.constant();
        int other = z.constant();
        int value = z.constant();
        int written = z.write(array, index, value);
        int read = z.read(written, other);
        z.push();
        z.clause(2 * z.equal(index, other), -1, -1);
        Due.is("classOf in the frame", z.classOf(read), 3);
        Due.is("pop", z.pop(), 0);
        Due.is("classOf behind it", z.classOf(read), 5);
    }
}
