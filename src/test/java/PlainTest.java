import java.util.NoSuchElementException;

/**
 * Runs of full size, each answer compared with that of the plain solver. In some of them other things were told, asked
 * and taken away first. No object is used for more than 512 calls.
 */
public final class PlainTest {
    private static final int[] FARTHEST = {0, 1, 2, 3, 20};
    /** Runs whose answers are wrong if the cause of a clash is told wrong in a place where this hardly ever matters. */
    private static final int[] RARE = {
        20004638, 20006228, 20029964, 20039920, 20047670, 20132915, 21004432, 21005761, 21206635, 21207161, 21301970
    };

    private final Both both;

    private PlainTest(Congruary x, long seed) {
        both = new Both(x, seed);
    }

    private void tell(int tries) {
        int arrays = both.next(3) == 0 ? 1 + both.next(2) : 0;
        int constants = 1 + both.next(7);
        for (int n = 0; n < arrays; n++) both.array();
        for (int n = 0; n < constants; n++) both.constant();
        int functions = 1 + both.next(4);
        for (int n = 0; n < tries && both.terms() < 14; n++) {
            tellTerm(arrays > 0 ? both.next(5) : 0, both.next(functions));
        }
        int equals = both.next(11);
        int most = FARTHEST[both.next(5)];
        for (int n = 0; n < tries && both.atoms() < 24; n++) {
            tellAtom(both.next(10) < equals, both.next(2 * most + 1) - most);
        }
        int single = both.next(4);
        for (int n = 0; n < 14 && both.atoms() > 0; n++) {
            int first = literal(both.next(4) != 0);
            int second = both.next(4) < single ? -1 : literal(both.next(2) == 0);
            int third = both.next(2) == 0 ? -1 : literal(both.next(2) == 0);
            both.clause(first, second, second < 0 ? -1 : third);
        }
        for (int n = both.next(5); n > 0; n--) {
            char kind = "ismc".charAt(both.next(4));
            both.rule(kind, both.next(2) + (kind == 'c' ? 2 : 0));
        }
    }

    /** Tells other things in a frame, asks for answers, and takes the frame away. */
    private static void tellAndTakeAway(Congruary x, long seed) {
        x.push();
        new PlainTest(x, seed).tell(30);
        x.isSound();
        if (x.check()) x.classes();
        x.pop();
    }

    /** A literal: one for which two values are apart, or any other one. */
    private int literal(boolean contrary) {
        return 2 * both.next(both.atoms()) + (contrary ? 1 : both.next(2));
    }

    private void tellTerm(int sort, int function) {
        int first = both.next(both.terms());
        int second = both.next(both.terms());
        int value = both.next(both.terms());
        try {
            if (sort < 3) both.apply(function, first, function < 2 ? -1 : second);
            else if (sort == 3) both.read(first, second);
            else both.write(first, second, value);
        } catch (NoSuchElementException e) {
            // An array where a value should be, or the other way: the term is not told.
        }
    }

    private void tellAtom(boolean equal, int most) {
        int first = both.next(both.terms());
        int second = both.next(both.terms());
        if (equal) both.equal(first, second);
        else both.atMost(first, second, most);
    }

    private static void look(int seed) {
        Congruary x = new Congruary();
        if (seed % 3 == 0) tellAndTakeAway(x, ~seed);
        PlainTest run = new PlainTest(x, seed);
        run.tell(80);
        run.both.compare("run " + seed + ": ");
    }

    public static void main(String[] args) {
        int runs = args.length > 0 ? Integer.parseInt(args[0]) : 1500;
        int from = args.length > 1 ? Integer.parseInt(args[1]) : 0;
        for (int seed = from; seed < from + runs; seed++) look(seed);
        for (int seed : RARE) look(seed);
        Both.end();
    }
}
