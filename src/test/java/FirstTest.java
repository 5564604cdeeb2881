/** A new object answers as one without terms, clauses and rules. */
public final class FirstTest {
    public static void main(String[] args) {
        Congruary x = new Congruary();
        if (x.terms() != 0 || x.atoms() != 0 || x.clauses() != 0 || !x.check()) System.exit(1);
    }
}
