/** Promise 4: what read answers, what it leaves behind, and what stands behind END. */
public final class ReadTest {
    public static void main(String[] args) {
        answersHowMany();
        theTapeIsEmptyThen();
        aTermAndEnd();
        andNoMore();
        alsoAtASignBehindEnd();
        moreThan4096Bytes();
        theResultStaysByBoth();
        theFirstReadThrows();
        thePlaceIsOfTheLatestRead();
        manyReadsOfOneObject();
        Checks.finish();
    }

    private static void answersHowMany() {
        TermReader reader = new TermReader();
        Checks.feed(reader, "f(X, Y) :- g(X), \\+ h(Y).");
        Checks.due("read", reader.read(), 33);
        Told.read(":-(f(_0,_1),','(g(_0),\\+(h(_1))))", 10, 2, 4).due("read", reader);
        Checks.feed(reader, "a.");
        Checks.due("read", reader.read(), 1);
        Checks.feed(reader, "''.");
        Checks.due("read", reader.read(), 2);
        Checks.feed(reader, "'" + "b".repeat(2093) + " '+(" + "a+".repeat(399) + "a).");
        Checks.due("read", reader.read(), 4096);
    }

    private static void theTapeIsEmptyThen() {
        String[] texts = {"f(a).", "a b.", "", LimitsTest.tooLongToPrint(), "a".repeat(4096)};
        int[] thrown = {0, Checks.BROKEN, Checks.BROKEN, Checks.TOO_LONG, Checks.BROKEN};
        for (int i = 0; i < texts.length; i++) {
            TermReader reader = new TermReader();
            Checks.due("thrown", Checks.read(reader, texts[i]), thrown[i]);
            Checks.due("tape", reader.count(0), 0);
            Checks.due("end(1)", Checks.thrownByEnd(reader, 1), Checks.WRONG_ARGUMENT);
            // What was on the tape is not read twice.
            Checks.due("read of the empty tape", Checks.readTape(reader, ""), Checks.BROKEN);
            Checks.due("place", reader.count(2), 0);
            Checks.due("feed", reader.feed(0, 0, 0, 0, 0), 20);
        }
    }

    private static void aTermAndEnd() {
        Edge.within("a.", "a");
        Edge.beyond("a", 1);
        Edge.beyond(".", 0);
        Edge.beyond("", 0);
        Edge.beyond(" ", 1);
        Edge.beyond("a  ", 3);
        Edge.beyond("a %.", 4);
    }

    private static void andNoMore() {
        Edge.within("a. \t\r\n", "a");
        Edge.within("a. \t\r\n%b.", "a");
        Edge.beyond("a. b.", 3);
        Edge.beyond("a.\nb.", 3);
        Edge.beyond("a. .", 3);
        Edge.beyond("a.b.", 1);
    }

    private static void alsoAtASignBehindEnd() {
        Edge.beyond("a. b", 3);
        Edge.beyond("a.\n%\n'", 5);
        Edge.beyond("a.\n%\n'b'", 5);
        Edge.beyond("a. \u0000", 3);
        Edge.beyond("a. \u00ff", 3);
        Edge.beyond("a. 99999999999999999999", 3);
        Edge.beyond("a." + " ".repeat(4093) + ")", 4095);
    }

    private static void moreThan4096Bytes() {
        Edge.within("b".repeat(2096) + "+a".repeat(400) + ".", "+(".repeat(400) + "b".repeat(2096) + ",a)".repeat(400));
        Edge.tooLong("b".repeat(2097) + "+a".repeat(400) + ".");
        Edge.tooLong(LimitsTest.tooLongToPrint());
        // The last byte too many is that of a name, of a variable's number, of a closing bracket.
        Edge.within("[" + "b".repeat(4092) + "].", "[" + "b".repeat(4092) + "]");
        String sums = "+a".repeat(400);
        Edge.tooLong("[" + "b".repeat(2095) + sums + "].");
        Edge.within("[" + "b".repeat(2094) + sums + "].", "[" + "+(".repeat(400) + "b".repeat(2094) + ",a)".repeat(400) + "]");
        Edge.tooLong("f(" + "b".repeat(2094) + sums + ").");
        Edge.tooLong("[" + "b".repeat(2093) + sums + "|X].");
    }

    private static void theResultStaysByBoth() {
        TermReader reader = new TermReader();
        Checks.read(reader, "f(X,[Y|_],g(a)).");
        Told kept = Told.read("f(_0,[_1|_2],g(a))", 7, 3, 2);
        kept.due("the first", reader);
        Checks.due("broken", Checks.read(reader, "h(A,B,b c)."), Checks.BROKEN);
        kept.withPlace(8).due("behind a broken read", reader);
        Checks.due("too long", Checks.read(reader, LimitsTest.tooLongToPrint()), Checks.TOO_LONG);
        kept.due("behind a read too long", reader);
        Checks.due("broken", Checks.read(reader, "[a" + ",a".repeat(500) + "]."), Checks.BROKEN);
        kept.withPlace(0).due("behind too many symbols", reader);
        Checks.due("too long", Checks.read(reader, LimitsTest.tooLongToPrint()), Checks.TOO_LONG);
        Checks.read(reader, "b.");
        Told.read("b", 1, 0, 0).due("the next", reader);
    }

    private static void theFirstReadThrows() {
        TermReader reader = new TermReader();
        Checks.due("too long", Checks.read(reader, LimitsTest.tooLongToPrint()), Checks.TOO_LONG);
        Told.NOTHING.due("behind a first read too long", reader);
        Checks.due("broken", Checks.read(reader, "f(a"), Checks.BROKEN);
        Told.NOTHING.withPlace(3).due("behind a broken read", reader);
    }

    private static void thePlaceIsOfTheLatestRead() {
        TermReader reader = new TermReader();
        Checks.due("broken", Checks.read(reader, "f(a b)."), Checks.BROKEN);
        Told.NOTHING.withPlace(4).due("broken", reader);
        Checks.due("broken", Checks.read(reader, "a b."), Checks.BROKEN);
        Told.NOTHING.withPlace(2).due("broken elsewhere", reader);
        Checks.due("well", Checks.read(reader, "a."), 0);
        Told.read("a", 1, 0, 0).due("read well", reader);
    }

    private static void manyReadsOfOneObject() {
        TermReader reader = new TermReader();
        for (int i = 0; i < 20; i++) {
            Checks.read(reader, "f(A" + i + ",[B," + i + "|_]).");
            Told.read("f(_0,[_1," + i + "|_2])", 7, 3, 3).due("read " + i, reader);
            Checks.due("broken", Checks.read(reader, "x(".repeat(i % 9 + 1)), Checks.BROKEN);
            Checks.due("place", reader.count(2), 2 * (i % 9 + 1));
        }
    }
}
