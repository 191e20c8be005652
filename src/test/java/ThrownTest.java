/** "What is thrown: as the calls say. A call that throws changes nothing, but as said." */
public final class ThrownTest {
    private static final int[] WRONG_WHAT = {-1, 3, 255, 256, Integer.MIN_VALUE, Integer.MAX_VALUE};

    public static void main(String[] args) {
        changesNothing("a new object", new TermReader());
        changesNothing("behind feed", fed(new TermReader(), "f(a,b)."));
        changesNothing("a full tape", fed(new TermReader(), "a".repeat(4096)));
        changesNothing("behind read", behind("f(X,[a]).", 0));
        changesNothing("behind a broken read", behind("f(X,[a]", Checks.BROKEN));
        changesNothing("behind a read too long", behind(LimitsTest.tooLongToPrint(), Checks.TOO_LONG));
        changesNothing("behind read and feed", fed(behind("f(X,[a]).", 0), "g(a)."));
        changesNothing("behind a broken read and feed", fed(behind("a b", Checks.BROKEN), "g(a)."));
        brokenReadsChangeButAsSaid();
        readsTooLongChangeButAsSaid();
        theTextStandsBehindThrows();
        Checks.finish();
    }

    private static TermReader fed(TermReader reader, String text) {
        Checks.feed(reader, text);
        return reader;
    }

    private static TermReader behind(String text, int thrown) {
        TermReader reader = Edge.behindFormer();
        Checks.due("read of " + Checks.brief(text), Checks.read(reader, text), thrown);
        return reader;
    }

    private static void changesNothing(String when, TermReader reader) {
        Told before = Told.by(reader);
        for (int what : WRONG_WHAT) {
            Checks.due("about " + when, Checks.thrownByAbout(reader, what), Checks.WRONG_ARGUMENT);
            Checks.due("count " + when, Checks.thrownByCount(reader, what), Checks.WRONG_ARGUMENT);
        }
        before.due("about and count " + when, reader);
        for (int n : new int[] {-1, before.tape() + 1, Integer.MIN_VALUE, Integer.MAX_VALUE}) {
            Checks.due("end " + when, Checks.thrownByEnd(reader, n), Checks.WRONG_ARGUMENT);
        }
        before.due("end " + when, reader);
        for (int i : new int[] {-1, before.bytes(), before.bytes() + 1, Integer.MIN_VALUE, Integer.MAX_VALUE}) {
            Checks.due("word " + when, Checks.thrownByWord(reader, i), Checks.WRONG_ARGUMENT);
        }
        before.due("word " + when, reader);
        if (before.tape() > 4076) {
            Checks.due("feed " + when, Checks.thrownByFeed(reader), Checks.TOO_LONG);
            before.due("feed " + when, reader);
        }
    }

    private static void brokenReadsChangeButAsSaid() {
        TermReader reader = Edge.behindFormer();
        Told before = Told.by(reader);
        Checks.feed(reader, "g(X,Y,Z, a b).");
        before.withTape(14).due("behind feed", reader);
        Checks.due("read", Checks.readTape(reader, "g"), Checks.BROKEN);
        before.withPlace(11).due("the tape is empty and the place is told, no more", reader);
    }

    private static void readsTooLongChangeButAsSaid() {
        TermReader reader = behind("a b", Checks.BROKEN);
        Told before = Told.by(reader);
        Checks.due("read", Checks.read(reader, LimitsTest.tooLongToPrint()), Checks.TOO_LONG);
        before.withPlace(-1).due("the tape is empty and no place is told, no more", reader);
    }

    private static void theTextStandsBehindThrows() {
        TermReader reader = fed(new TermReader(), "f(X,[a]).");
        changesNothing("between feed and read", reader);
        Checks.due("read", reader.read(), 9);
        Told.read("f(_0,[a])", 5, 1, 2).due("read", reader);
    }
}
