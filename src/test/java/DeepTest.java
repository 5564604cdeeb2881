/**
 * Runs for which the search tries very many facts at once before it clashes, told as text; they were found by changing
 * random runs for as long as the search went deeper. Each answer is compared with that of the plain solver.
 */
public final class DeepTest {
    /** The search goes 51 tries deep. */
    private static final String WITH_ARRAYS = """
            constant; array; constant; constant; constant; write 1 2 2; read 5 4; read 5 3; constant; read 5 0;
            read 5 6; read 1 9; read 1 8; read 1 7; equal 6 2; equal 11 6; equal 7 10; atMost 9 2 2; atMost 4 7 3;
            equal 8 12; equal 10 8; atMost 0 6 -3; equal 9 8; equal 13 0; atMost 7 11 -2; equal 12 7; equal 7 9;
            atMost 8 7 -3; clause 6 15 -1; clause 8 12 0; clause 21 2 0; clause 27 0 9; clause 15 15 26;
            clause 16 4 4; clause 25 25 1; clause 3 14 18; clause 23 25 -1; clause 18 1 5; clause 19 19 0;
            clause 11 12 14; clause 5 5 2; clause 13 13 26; rule m 1; rule s 0; rule s 1; rule m 1
            """;

    /** The search goes 48 tries deep. */
    private static final String DEEP = """
            constant; constant; apply 0 0 -1; apply 3 1 0; apply 3 2 1; apply 3 1 1; apply 1 5 -1; apply 3 3 4;
            apply 1 4 -1; apply 1 7 -1; apply 0 7 -1; apply 1 2 -1; apply 1 1 -1; apply 3 9 8; equal 0 13;
            atMost 8 0 1; equal 9 10; atMost 4 10 -3; equal 12 1; atMost 6 11 0; atMost 7 3 1; atMost 7 13 -2;
            equal 6 5; atMost 5 0 -2; equal 11 10; equal 9 13; equal 1 6; equal 2 4; equal 3 11; equal 9 5;
            atMost 10 4 -3; equal 10 5; atMost 11 13 2; atMost 4 3 0; atMost 8 4 0; equal 12 13; atMost 0 8 0;
            clause 38 34 44; clause 22 30 41; clause 42 36 1; clause 31 16 31; clause 7 30 45; clause 14 38 -1;
            clause 35 38 26; clause 21 45 6; clause 1 28 30; clause 18 29 40; clause 43 38 16; clause 5 26 42;
            clause 12 26 8; clause 28 42 9; rule m 0; rule c 2; rule m 1; rule c 3
            """;

    /** The search goes 63 tries deep. */
    private static final String DEEPER = """
            constant; apply 0 0 -1; apply 0 1 -1; apply 3 0 0; apply 3 3 3; apply 0 2 -1; apply 0 3 -1; apply 0 4 -1;
            apply 3 5 5; apply 0 6 -1; apply 3 1 1; apply 0 8 -1; apply 0 11 -1; apply 0 10 -1; atMost 11 5 3;
            atMost 11 10 -2; atMost 1 4 -3; equal 0 10; equal 5 2; atMost 13 8 1; equal 10 1; equal 10 0;
            atMost 2 7 -3; atMost 1 10 0; atMost 11 3 -1; atMost 8 13 -3; atMost 8 9 2; atMost 8 7 0; atMost 4 10 0;
            equal 10 5; equal 3 10; atMost 3 10 3; equal 9 2; equal 5 4; equal 3 9; equal 3 4; equal 2 8;
            atMost 11 2 1; clause 13 35 4; clause 31 2 44; clause 46 32 9; clause 2 33 18; clause 38 20 6;
            clause 5 10 16; clause 3 3 26; clause 0 26 8; clause 12 21 33; clause 17 8 46; clause 29 20 32;
            clause 11 20 25; clause 23 26 -1; clause 15 2 35; rule m 1; rule m 0; rule c 2; rule c 2
            """;

    /** The search goes 66 tries deep. */
    private static final String DEEPEST = """
            constant; apply 0 0 -1; apply 0 1 -1; apply 3 0 0; apply 3 3 3; apply 0 2 -1; apply 0 3 -1; apply 0 5 -1;
            apply 3 1 1; apply 0 6 -1; apply 3 8 8; apply 0 8 -1; apply 0 11 -1; apply 0 9 -1; equal 3 2;
            atMost 7 3 3; equal 4 10; equal 10 8; equal 6 10; equal 11 6; equal 10 4; atMost 3 4 0; atMost 2 7 -3;
            atMost 4 0 3; atMost 6 3 0; equal 10 0; equal 4 12; atMost 12 8 3; atMost 1 10 0; atMost 4 1 1;
            equal 11 11; equal 10 3; atMost 10 12 1; atMost 2 8 -1; atMost 3 4 -3; atMost 1 5 0; equal 2 3;
            atMost 11 3 3; clause 7 3 20; clause 26 20 -1; clause 23 6 12; clause 39 16 30; clause 14 7 25;
            clause 9 37 9; clause 13 27 17; clause 46 31 29; clause 41 44 3; clause 17 23 37; clause 24 38 30;
            clause 29 0 14; clause 35 37 45; clause 18 27 22; rule c 3; rule c 3; rule c 2; rule m 0
            """;

    private static void tell(Both both, String call) {
        String[] w = call.trim().split(" ");
        int[] a = new int[3];
        for (int n = 1; n < w.length; n++) if (w[n].matches("-?[0-9]+")) a[n - 1] = Integer.parseInt(w[n]);
        switch (w[0]) {
            case "constant" -> both.constant();
            case "array" -> both.array();
            case "apply" -> both.apply(a[0], a[1], a[2]);
            case "read" -> both.read(a[0], a[1]);
            case "write" -> both.write(a[0], a[1], a[2]);
            case "equal" -> both.equal(a[0], a[1]);
            case "atMost" -> both.atMost(a[0], a[1], a[2]);
            case "clause" -> both.clause(a[0], a[1], a[2]);
            case "rule" -> both.rule(w[1].charAt(0), a[1]);
            default -> throw new IllegalArgumentException(call);
        }
    }

    /** Each turn compares the answers of a new object for other literals and other pairs of values. */
    private static void look(String name, String run) {
        for (int turn = 0; turn < 10; turn++) {
            Both both = new Both(new Congruary(), turn);
            for (String call : run.replace('\n', ' ').split(";")) tell(both, call);
            both.compare(name + ", turn " + turn + ": ");
        }
    }

    public static void main(String[] args) {
        look("WITH_ARRAYS", WITH_ARRAYS);
        look("DEEP", DEEP);
        look("DEEPER", DEEPER);
        look("DEEPEST", DEEPEST);
        Both.end();
    }
}
