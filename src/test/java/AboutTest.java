/** Promise 5: about. */
public final class AboutTest {
    public static void main(String[] args) {
        zeroBefore();
        whatZeroToTwo();
        leaves();
        compounds();
        lists();
        asOftenAsItStandsThere();
        differentVariables();
        eachPlainLineIsOne();
        compoundsWithinOneAnother();
        theLatestThatWasReadWithoutAThrow();
        Checks.finish();
    }

    private static void tellsNothing(TermReader reader, String when) {
        for (int what = 0; what <= 2; what++) {
            Checks.due("about(" + what + ") " + when, reader.about(what), 0);
        }
    }

    private static void zeroBefore() {
        TermReader reader = new TermReader();
        tellsNothing(reader, "of a new object");
        Checks.feed(reader, "f(X).");
        tellsNothing(reader, "behind feed");
        reader.end(4);
        Checks.due("broken", Checks.readTape(reader, "f(X"), Checks.BROKEN);
        tellsNothing(reader, "behind a broken read");
        Checks.due("too long", Checks.read(reader, LimitsTest.tooLongToPrint()), Checks.TOO_LONG);
        tellsNothing(reader, "behind a read too long");
        Checks.due("broken", Checks.read(reader, "[X" + ",Y".repeat(500) + "]."), Checks.BROKEN);
        tellsNothing(reader, "behind too many symbols");
    }

    private static void whatZeroToTwo() {
        for (TermReader reader : new TermReader[] {new TermReader(), Edge.behindFormer()}) {
            Told before = Told.by(reader);
            for (int what = 0; what <= 2; what++) {
                Checks.due("about(" + what + ")", Checks.thrownByAbout(reader, what), 0);
            }
            for (int what : new int[] {-1, -2, 3, 4, Integer.MIN_VALUE, Integer.MAX_VALUE}) {
                Checks.due("about(" + what + ")", Checks.thrownByAbout(reader, what), Checks.WRONG_ARGUMENT);
                before.due("behind about(" + what + ")", reader);
            }
        }
    }

    private static void leaves() {
        Checks.tells("a.", 1, 0, 0);
        Checks.tells("''.", 1, 0, 0);
        Checks.tells("17.", 1, 0, 0);
        Checks.tells("-17.", 1, 0, 0);
        Checks.tells("X.", 1, 1, 0);
        Checks.tells("((a)).", 1, 0, 0);
        Checks.tells("[].", 1, 0, 0);
        Checks.tells("- .", 1, 0, 0);
    }

    private static void compounds() {
        Checks.tells("f(a).", 2, 0, 1);
        Checks.tells("- 17.", 2, 0, 1);
        Checks.tells("a+b+c+d.", 7, 0, 3);
        Checks.tells("a,b,c,d.", 7, 0, 3);
        Checks.tells("f(a,g(h(b)),c).", 6, 0, 3);
        Checks.tells("f(g(h(b)),k(c)).", 6, 0, 3);
        Checks.tells("a :- \\+ b.", 4, 0, 2);
        Checks.tells("f(1,2,3,4,5,6,7,8).", 9, 0, 1);
    }

    private static void lists() {
        Checks.tells("[a].", 3, 0, 1);
        Checks.tells("[a,b,c].", 7, 0, 3);
        Checks.tells("[a,b|c].", 5, 0, 2);
        Checks.tells("[a|[]].", 3, 0, 1);
        Checks.tells("[f(a),b].", 6, 0, 2);
        Checks.tells("[a,f(b)].", 6, 0, 3);
        Checks.tells("[a|f(b)].", 4, 0, 2);
        Checks.tells("[[[]]].", 5, 0, 2);
        Checks.tells("'.'(a,'.'(b,[])).", 5, 0, 2);
    }

    private static void asOftenAsItStandsThere() {
        Checks.tells("f(a,a,a).", 4, 0, 1);
        Checks.tells("f(f(f)).", 3, 0, 2);
        Checks.tells("f(X,X,X).", 4, 1, 1);
        Checks.tells("f(1,1,-1).", 4, 0, 1);
        Checks.tells("[a,a].", 5, 0, 2);
        Checks.tells("a=a.", 3, 0, 1);
        Checks.tells("[- a" + ",a".repeat(498) + "].", 1000, 0, 499);
    }

    private static void differentVariables() {
        Checks.tells("f(X,Y,X).", 4, 2, 1);
        Checks.tells("f(_a,_a,_A,A,_).", 6, 4, 1);
        Checks.tells("f(X,XX,X1,x,'X').", 6, 3, 1);
        Checks.tells("[X,_|X].", 5, 2, 2);
        StringBuilder text = new StringBuilder("[V0");
        for (int i = 1; i < 499; i++) {
            text.append(",V").append(i);
        }
        Checks.tells(text + "].", 999, 499, 499);
    }

    private static void eachPlainLineIsOne() {
        Checks.tells("_.", 1, 1, 0);
        Checks.tells("f(_,_,_).", 4, 3, 1);
        Checks.tells("f(__,__,_0,_0).", 5, 2, 1);
        Checks.tells("[_" + ",_".repeat(498) + "].", 999, 499, 499);
    }

    private static void compoundsWithinOneAnother() {
        Checks.tells("f(a,b,c).", 4, 0, 1);
        Checks.tells("f(g,g(a),g(g(a)),a).", 8, 0, 3);
        Checks.tells("f(".repeat(99) + "a" + ")".repeat(99) + ".", 100, 0, 99);
        Checks.tells("a" + "+a".repeat(499) + ".", 999, 0, 499);
        Checks.tells("(".repeat(99) + "a" + ")".repeat(99) + ".", 1, 0, 0);
        Checks.tells("[[a,b],c].", 9, 0, 3);
        Checks.tells("- - - a.", 4, 0, 3);
    }

    private static void theLatestThatWasReadWithoutAThrow() {
        TermReader reader = new TermReader();
        Checks.read(reader, "f(X,g(Y)).");
        Checks.due("broken", Checks.read(reader, "a b c."), Checks.BROKEN);
        same(reader, 4, 2, 2);
        Checks.due("too long", Checks.read(reader, LimitsTest.tooLongToPrint()), Checks.TOO_LONG);
        same(reader, 4, 2, 2);
        Checks.feed(reader, "f(a).");
        same(reader, 4, 2, 2);
        reader.read();
        same(reader, 2, 0, 1);
    }

    private static void same(TermReader reader, int symbols, int variables, int nesting) {
        Checks.due("about(0)", reader.about(0), symbols);
        Checks.due("about(1)", reader.about(1), variables);
        Checks.due("about(2)", reader.about(2), nesting);
    }
}
