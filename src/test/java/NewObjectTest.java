/** Promise 1: of a new object nothing was read, as each call of the face tells. */
public final class NewObjectTest {
    private static final int[] WRONG_WHAT = {-1, 3, Integer.MIN_VALUE, Integer.MAX_VALUE};

    public static void main(String[] args) {
        allThatIsTold();
        byCount();
        byAbout();
        byWord();
        byFeed();
        byEnd();
        byRead();
        objectsAreApart();
        Checks.finish();
    }

    private static void allThatIsTold() {
        Told.NOTHING.due("a new object", new TermReader());
    }

    private static void byCount() {
        TermReader reader = new TermReader();
        Checks.due("count(0)", reader.count(0), 0);
        Checks.due("count(1)", reader.count(1), 0);
        Checks.due("count(2)", reader.count(2), -1);
        for (int what : WRONG_WHAT) {
            Checks.due("count(" + what + ")", Checks.thrownByCount(reader, what), Checks.WRONG_ARGUMENT);
        }
        Told.NOTHING.due("behind count", reader);
    }

    private static void byAbout() {
        TermReader reader = new TermReader();
        for (int what = 0; what <= 2; what++) {
            Checks.due("about(" + what + ")", reader.about(what), 0);
        }
        for (int what : WRONG_WHAT) {
            Checks.due("about(" + what + ")", Checks.thrownByAbout(reader, what), Checks.WRONG_ARGUMENT);
        }
        Told.NOTHING.due("behind about", reader);
    }

    private static void byWord() {
        TermReader reader = new TermReader();
        for (int i : new int[] {-1, 0, 1, 7, 8, 4095, 4096, Integer.MIN_VALUE, Integer.MAX_VALUE}) {
            Checks.due("word(" + i + ")", Checks.thrownByWord(reader, i), Checks.WRONG_ARGUMENT);
        }
        Told.NOTHING.due("behind word", reader);
    }

    private static void byFeed() {
        TermReader reader = new TermReader();
        Checks.due("feed", reader.feed(0, 0, 0, 0, 0), 20);
        Told.NOTHING.withTape(20).due("behind feed", reader);
    }

    private static void byEnd() {
        TermReader reader = new TermReader();
        Checks.due("end(0)", reader.end(0), 0);
        for (int n : new int[] {-1, 1, 20, 4096, Integer.MIN_VALUE, Integer.MAX_VALUE}) {
            Checks.due("end(" + n + ")", Checks.thrownByEnd(reader, n), Checks.WRONG_ARGUMENT);
        }
        Told.NOTHING.due("behind end", reader);
    }

    private static void byRead() {
        TermReader reader = new TermReader();
        Checks.due("read of nothing", Checks.readTape(reader, ""), Checks.BROKEN);
        Told.NOTHING.withPlace(0).due("behind read", reader);
        Checks.due("read of nothing again", Checks.readTape(reader, ""), Checks.BROKEN);
        Told.NOTHING.withPlace(0).due("behind read", reader);
    }

    private static void objectsAreApart() {
        TermReader one = new TermReader();
        TermReader other = new TermReader();
        Checks.read(one, "f(X).");
        Checks.feed(one, "abc");
        Told.NOTHING.due("the other", other);
        Checks.read(other, "g(a,b).");
        Told.read("f(_0)", 2, 1, 1).withTape(3).due("the first", one);
        Checks.due("the third", Checks.read(new TermReader(), "a b."), Checks.BROKEN);
        Told.read("g(a,b)", 3, 0, 1).due("the other", other);
        Told.read("f(_0)", 2, 1, 1).withTape(3).due("the first", one);
    }
}
