import java.util.StringJoiner;

/** The answers to what can be asked of an object, as one text; at most some 350 calls, so that more may be made. */
final class Snapshot {
    private static final int SOME_TERMS = 6;

    private final Congruary x;
    private final StringJoiner answers = new StringJoiner("\n");

    private Snapshot(Congruary x) {
        this.x = x;
    }

    static String of(Congruary x) {
        Snapshot made = new Snapshot(x);
        made.askWhole();
        made.askTerms();
        made.askLiterals();
        made.askModel();
        return made.answers.toString();
    }

    private void ask(String call, Due.Call made) {
        answers.add(call + " -> " + Due.answer(made));
    }

    private void askWhole() {
        ask("terms", x::terms);
        ask("atoms", x::atoms);
        ask("clauses", x::clauses);
        ask("check", x::check);
        ask("core", x::core);
        for (int n = 0; n < 4; n++) {
            int index = n;
            ask("coreAt " + n, () -> x.coreAt(index));
        }
        ask("classes", x::classes);
        ask("trueLiterals", x::trueLiterals);
        ask("coreShare", x::coreShare);
        ask("meanValue", x::meanValue);
        ask("isSound", x::isSound);
    }

    private void askTerms() {
        int terms = x.terms();
        for (int n = 0; n <= terms; n++) {
            int term = n;
            ask("kindOf " + n, () -> x.kindOf(term));
            ask("classOf " + n, () -> x.classOf(term));
            ask("valueOf " + n, () -> x.valueOf(term));
            for (int m = 0; m < Math.min(terms, SOME_TERMS); m++) {
                int other = m;
                ask("bound " + n + " " + m, () -> x.bound(term, other));
            }
        }
    }

    private void askLiterals() {
        int literals = 2 * x.atoms();
        for (int n = 0; n <= literals; n++) {
            int literal = n;
            ask("isTrue " + n, () -> x.isTrue(literal));
            ask("reasons " + n, () -> x.reasons(literal));
            ask("reasonAt " + n, () -> x.reasonAt(literal, 0));
        }
    }

    private void askModel() {
        int terms = x.terms();
        for (int n = 0; n < 4; n++) {
            int at = n;
            ask("functionAt 0 " + n, () -> x.functionAt(0, at, -1));
            ask("functionAt 2 " + n, () -> x.functionAt(2, at, 1));
            for (int m = 0; m < Math.min(terms, SOME_TERMS); m++) {
                int term = m;
                ask("entry " + m + " " + n, () -> x.entry(term, at));
            }
        }
    }
}
