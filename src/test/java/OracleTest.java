/** Runs of calls that are made by a counter of its own, each answer compared with that of the oracle. */
public final class OracleTest {
    private static final String[] CALLS = {
        "constant", "array", "apply", "read", "write", "terms", "kindOf", "equal", "atMost", "atoms", "clause",
        "clauses", "rule", "push", "pop", "check", "core", "coreAt", "follows", "reasons", "reasonAt", "bound",
        "classOf", "classes", "valueOf", "functionAt", "entry", "isTrue", "trueLiterals", "coreShare", "meanValue",
        "isSound"
    };
    private static final int FIRST_QUESTION = 15;

    private final Congruary x = new Congruary();
    private final Oracle o = new Oracle();
    private final StringBuilder told = new StringBuilder();
    private long state;

    private OracleTest(long seed) {
        state = seed * 2862933555777941757L + 3037000493L;
    }

    private int next(int bound) {
        state = state * 6364136223846793005L + 1442695040888963407L;
        return (int) ((state >>> 33) % bound);
    }

    private int term() {
        return next(20) == 0 ? next(30) - 8 : next(Math.max(1, o.terms()));
    }

    private int literal() {
        return next(25) == 0 ? next(60) - 8 : next(Math.max(1, 2 * o.atoms()));
    }

    private int literalOrNone() {
        return next(3) == 0 ? -1 : literal();
    }

    private boolean isArray(int t) {
        return t >= 0 && t < o.terms() && (o.kindOf(t) == 'a' || o.kindOf(t) == 'w');
    }

    private int arrayTerm() {
        int t = term();
        for (int n = 0; n < 20 && next(10) != 0 && !isArray(t); n++) t = term();
        return t;
    }

    private int valueTerm() {
        int t = term();
        for (int n = 0; n < 20 && next(40) != 0 && isArray(t); n++) t = term();
        return t;
    }

    private int values() {
        int count = 0;
        for (int t = 0; t < o.terms(); t++) if (!isArray(t)) count++;
        return count;
    }

    private char kind() {
        return next(15) == 0 ? 'x' : "ismc".charAt(next(4));
    }

    private Object answer(Object who, String call, int[] a) {
        boolean p = who == x;
        try {
            switch (call) {
                case "constant": return p ? x.constant() : o.constant();
                case "array": return p ? x.array() : o.array();
                case "apply": return p ? x.apply(a[0], a[1], a[2]) : o.apply(a[0], a[1], a[2]);
                case "read": return p ? x.read(a[0], a[1]) : o.read(a[0], a[1]);
                case "write": return p ? x.write(a[0], a[1], a[2]) : o.write(a[0], a[1], a[2]);
                case "terms": return p ? x.terms() : o.terms();
                case "kindOf": return p ? (int) x.kindOf(a[0]) : o.kindOf(a[0]);
                case "equal": return p ? x.equal(a[0], a[1]) : o.equal(a[0], a[1]);
                case "atMost": return p ? x.atMost(a[0], a[1], a[2]) : o.atMost(a[0], a[1], a[2]);
                case "atoms": return p ? x.atoms() : o.atoms();
                case "clause": return p ? x.clause(a[0], a[1], a[2]) : o.clause(a[0], a[1], a[2]);
                case "clauses": return p ? x.clauses() : o.clauses();
                case "rule": return p ? x.rule((char) a[0], a[1]) : o.rule((char) a[0], a[1]);
                case "push": return p ? x.push() : o.push();
                case "pop": return p ? x.pop() : o.pop();
                case "check": return p ? x.check() : o.check();
                case "core": return p ? x.core() : o.core();
                case "coreAt": return p ? x.coreAt(a[0]) : o.coreAt(a[0]);
                case "follows": return p ? x.follows(a[0]) : o.follows(a[0]);
                case "reasons": return p ? x.reasons(a[0]) : o.reasons(a[0]);
                case "reasonAt": return p ? x.reasonAt(a[0], a[1]) : o.reasonAt(a[0], a[1]);
                case "bound": return p ? x.bound(a[0], a[1]) : o.bound(a[0], a[1]);
                case "classOf": return p ? x.classOf(a[0]) : o.classOf(a[0]);
                case "classes": return p ? x.classes() : o.classes();
                case "valueOf": return p ? x.valueOf(a[0]) : o.valueOf(a[0]);
                case "functionAt": return p ? x.functionAt(a[0], a[1], a[2]) : o.functionAt(a[0], a[1], a[2]);
                case "entry": return p ? x.entry(a[0], a[1]) : o.entry(a[0], a[1]);
                case "isTrue": return p ? x.isTrue(a[0]) : o.isTrue(a[0]);
                case "trueLiterals": return p ? x.trueLiterals() : o.trueLiterals();
                case "coreShare": return p ? x.coreShare() : o.coreShare();
                case "meanValue": return p ? x.meanValue() : o.meanValue();
                default: return p ? x.isSound() : o.isSound();
            }
        } catch (RuntimeException e) {
            return e.getClass().getName();
        }
    }

    private int[] arguments(String call) {
        switch (call) {
            case "apply":
                int function = next(20) == 0 ? next(8) - 2 : next(4);
                return new int[] {function, valueTerm(), function < 2 && next(20) != 0 ? -1 : valueTerm()};
            case "read": return new int[] {arrayTerm(), valueTerm()};
            case "write": return new int[] {arrayTerm(), valueTerm(), valueTerm()};
            case "kindOf": return new int[] {term()};
            case "equal": return new int[] {valueTerm(), valueTerm()};
            case "atMost":
                int most = next(2 * Oracle.K + 1) - Oracle.K;
                return new int[] {valueTerm(), valueTerm(), next(30) == 0 ? 21 + next(2) * -42 : most};
            case "clause": return new int[] {literal(), literalOrNone(), literalOrNone()};
            case "rule":
                char kind = kind();
                return new int[] {kind, next(15) == 0 ? next(8) - 2 : next(2) + (kind == 'c' ? 2 : 0)};
            case "coreAt": return new int[] {next(6) - 1};
            case "follows": case "reasons": case "isTrue": return new int[] {literal()};
            case "reasonAt": return new int[] {literal(), next(5) - 1};
            case "bound": return new int[] {valueTerm(), valueTerm()};
            case "classOf": case "valueOf": return new int[] {valueTerm()};
            case "functionAt":
                return new int[] {next(20) == 0 ? next(8) - 2 : next(4), next(4) - 1, next(4) - 1};
            case "entry": return new int[] {arrayTerm(), next(5) - 1};
            default: return new int[0];
        }
    }

    /** Makes one call. Answers whether both answers are the same. */
    private boolean call(String call) {
        int[] a = arguments(call);
        Object due = answer(o, call, a);
        Object got = answer(x, call, a);
        told.append(call).append(java.util.Arrays.toString(a)).append(" -> ").append(got).append('\n');
        if (due.equals(got)) return true;
        System.out.println(told + "due is " + due);
        return false;
    }

    private boolean run(int most) {
        int calls = 0;
        for (int turn = 0; turn < 12; turn++) {
            for (int n = next(8); n >= 0; n--) {
                boolean full = values() >= most || o.terms() >= most + 3;
                int from = full ? 5 : 0;
                String call = CALLS[from + next(FIRST_QUESTION - from)];
                if (call.equals("pop") && next(3) != 0) call = "clause";
                if (call.equals("push") && next(2) != 0) call = "equal";
                if (!call(call)) return false;
            }
            for (int n = next(12); n >= 0; n--) {
                if (!call(CALLS[FIRST_QUESTION + next(CALLS.length - FIRST_QUESTION)])) return false;
            }
        }
        return true;
    }

    public static void main(String[] args) {
        int runs = args.length > 0 ? Integer.parseInt(args[0]) : 400;
        int from = args.length > 1 ? Integer.parseInt(args[1]) : 0;
        int most = args.length > 2 ? Integer.parseInt(args[2]) : 4;
        for (int seed = from; seed < from + runs; seed++) {
            if (!new OracleTest(seed).run(most)) {
                System.out.println("run " + seed + " is not as due");
                System.exit(1);
            }
        }
        System.out.println(runs + " runs are as due");
    }
}
