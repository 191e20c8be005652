/** Promise 5: about. */
public final class AboutTest {
    public static void main(String[] args) {
        leaves();
        compounds();
        lists();
        variables();
        theLatestThatWasRead();
        wrongInputs();
        Checks.finish();
    }

    private static void leaves() {
        Checks.tells("a.", 1, 0, 0);
        Checks.tells("17.", 1, 0, 0);
        Checks.tells("-17.", 1, 0, 0);
        Checks.tells("X.", 1, 1, 0);
        Checks.tells("((a)).", 1, 0, 0);
        Checks.tells("[].", 1, 0, 0);
        Checks.tells("- .", 1, 0, 0);
    }

    private static void compounds() {
        Checks.tells("f(a).", 2, 0, 1);
        Checks.tells("- 17.", 2, 0, 1);
        Checks.tells("a+b+c+d.", 7, 0, 3);
        Checks.tells("a,b,c,d.", 7, 0, 3);
        Checks.tells("f(a,g(h(b)),c).", 6, 0, 3);
        Checks.tells("f(g(h(b)),k(c)).", 6, 0, 3);
        Checks.tells("a :- \\+ b.", 4, 0, 2);
    }

    private static void lists() {
        Checks.tells("[a].", 3, 0, 1);
        Checks.tells("[a,b,c].", 7, 0, 3);
        Checks.tells("[a,b|c].", 5, 0, 2);
        Checks.tells("[a|[]].", 3, 0, 1);
        Checks.tells("[f(a),b].", 6, 0, 2);
        Checks.tells("[a,f(b)].", 6, 0, 3);
        Checks.tells("[a|f(b)].", 4, 0, 2);
        Checks.tells("[[[]]].", 5, 0, 2);
        Checks.tells("'.'(a,'.'(b,[])).", 5, 0, 2);
    }

    private static void variables() {
        Checks.tells("f(X,Y,X).", 4, 2, 1);
        Checks.tells("f(_,_,_).", 4, 3, 1);
        Checks.tells("f(_,_a,_a,_A,A).", 6, 4, 1);
        Checks.tells("f(X,XX,X1,x,'X').", 6, 3, 1);
        Checks.tells("[X,_|X].", 5, 2, 2);
    }

    private static void theLatestThatWasRead() {
        TermReader reader = new TermReader();
        Checks.read(reader, "f(X,g(Y)).");
        Checks.due("broken", Checks.read(reader, "a b c."), Checks.BROKEN);
        same(reader, 4, 2, 2);
        Checks.due("too long", Checks.read(reader, LimitsTest.tooLongToPrint()), Checks.TOO_LONG);
        same(reader, 4, 2, 2);
        Checks.feed(reader, "f(a).");
        same(reader, 4, 2, 2);
        reader.read();
        same(reader, 2, 0, 1);
    }

    private static void same(TermReader reader, int symbols, int variables, int nesting) {
        Checks.due("about(0)", reader.about(0), symbols);
        Checks.due("about(1)", reader.about(1), variables);
        Checks.due("about(2)", reader.about(2), nesting);
    }

    private static void wrongInputs() {
        TermReader reader = new TermReader();
        for (int what : new int[] {-1, 3, Integer.MIN_VALUE, Integer.MAX_VALUE}) {
            int thrown = 0;
            try {
                reader.about(what);
            } catch (IllegalArgumentException e) {
                thrown = 1;
            }
            Checks.due("about(" + what + ") throws", thrown, 1);
        }
    }
}
