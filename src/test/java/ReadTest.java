/** Promise 4: what read leaves behind, and what stands behind END. */
public final class ReadTest {
    public static void main(String[] args) {
        oneTermAndEnd();
        whatABrokenReadLeaves();
        manyReadsOfOneObject();
        Checks.finish();
    }

    private static void oneTermAndEnd() {
        TermReader reader = new TermReader();
        Checks.feed(reader, "f(X, Y) :- g(X), \\+ h(Y).");
        Checks.due("read", reader.read(), 33);
        Checks.due("result", Checks.result(reader), ":-(f(_0,_1),','(g(_0),\\+(h(_1))))");
        Checks.breaks("a. b.", 3);
        Checks.breaks("a. .", 3);
        Checks.breaks("a.\n%\n'", 5);
        Checks.breaks("a. \u0000", 3);
        Checks.breaks("a. \u00ff", 3);
        Checks.breaks("a. 99999999999999999999", 3);
        Checks.prints("a. \t\r\n%b.", "a");
        Checks.breaks("a", 1);
        Checks.breaks("a  ", 3);
        Checks.breaks("a %.", 4);
    }

    private static void whatABrokenReadLeaves() {
        TermReader reader = new TermReader();
        Checks.due("empty tape", Checks.read(reader, ""), Checks.BROKEN);
        Checks.due("place", reader.count(2), 0);
        Checks.due("no result", reader.count(1), 0);
        Checks.read(reader, "f(X).");
        Checks.due("broken", Checks.read(reader, "g(Y,a b)."), Checks.BROKEN);
        Checks.due("place", reader.count(2), 6);
        Checks.due("the tape is empty", reader.count(0), 0);
        Checks.due("the result stays", Checks.result(reader), "f(_0)");
        Checks.due("symbols stay", reader.about(0), 2);
        Checks.due("the first that is broken", Checks.read(reader, "a \\+ \"."), Checks.BROKEN);
        Checks.due("place", reader.count(2), 2);
    }

    private static void manyReadsOfOneObject() {
        TermReader reader = new TermReader();
        for (int i = 0; i < 80; i++) {
            Checks.read(reader, "f(A" + i + ",[B," + i + "|_]).");
            Checks.due("result " + i, Checks.result(reader), "f(_0,[_1," + i + "|_2])");
            Checks.due("variables", reader.about(1), 3);
            Checks.due("broken", Checks.read(reader, "x(".repeat(i % 9 + 1)), Checks.BROKEN);
            Checks.due("place", reader.count(2), 2 * (i % 9 + 1));
        }
    }
}
