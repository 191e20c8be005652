/** Promise 3: end. */
public final class EndTest {
    public static void main(String[] args) {
        zeroToItsLength();
        beyondItsLength();
        whatWasCutIsGone();
        endOfAFullTape();
        theNextBytesComeBehindThoseKept();
        endBehindRead();
        Checks.finish();
    }

    private static void zeroToItsLength() {
        for (int n = 0; n <= 20; n++) {
            TermReader reader = Edge.behindFormer();
            Told before = Told.by(reader);
            Checks.feed(reader, "abc. and what is cut");
            Checks.due("end(" + n + ")", reader.end(n), n);
            before.withTape(n).due("behind end(" + n + ")", reader);
            Checks.due("end(" + n + ") again", reader.end(n), n);
            before.withTape(n).due("behind end(" + n + ")", reader);
        }
    }

    private static void beyondItsLength() {
        TermReader reader = Edge.behindFormer();
        Checks.feed(reader, "abc. and what is cut");
        Told before = Told.by(reader);
        for (int n : new int[] {-1, -20, 21, 40, 4096, 4097, Integer.MIN_VALUE, Integer.MAX_VALUE}) {
            Checks.due("end(" + n + ")", Checks.thrownByEnd(reader, n), Checks.WRONG_ARGUMENT);
            before.due("behind end(" + n + ")", reader);
        }
        Checks.due("end(4)", reader.end(4), 4);
        Checks.due("read", reader.read(), 3);
        Told.read("abc", 1, 0, 0).due("read", reader);
    }

    private static void whatWasCutIsGone() {
        TermReader reader = new TermReader();
        Checks.feed(reader, "abc. and what is cut");
        Checks.due("end(5)", reader.end(5), 5);
        Checks.due("end(6)", Checks.thrownByEnd(reader, 6), Checks.WRONG_ARGUMENT);
        Checks.due("end(20)", Checks.thrownByEnd(reader, 20), Checks.WRONG_ARGUMENT);
        Told.NOTHING.withTape(5).due("behind the throws", reader);
        Checks.due("end(0)", reader.end(0), 0);
        Checks.due("end(1)", Checks.thrownByEnd(reader, 1), Checks.WRONG_ARGUMENT);
        Checks.due("read of nothing", Checks.readTape(reader, ""), Checks.BROKEN);
        Told.NOTHING.withPlace(0).due("behind read", reader);
    }

    private static void endOfAFullTape() {
        TermReader reader = new TermReader();
        Checks.feed(reader, "a".repeat(4096));
        Checks.due("end(4097)", Checks.thrownByEnd(reader, 4097), Checks.WRONG_ARGUMENT);
        Checks.due("end(4096)", reader.end(4096), 4096);
        Checks.due("end(4095)", reader.end(4095), 4095);
        Checks.due("end(4096)", Checks.thrownByEnd(reader, 4096), Checks.WRONG_ARGUMENT);
        Told.NOTHING.withTape(4095).due("behind end", reader);
    }

    private static void theNextBytesComeBehindThoseKept() {
        TermReader reader = new TermReader();
        Checks.feed(reader, "abXXXXXXXXXXXXXXXXXX");
        reader.end(2);
        Checks.due("read", Checks.read(reader, "(c)."), 0);
        Told.read("ab(c)", 2, 0, 1).due("read", reader);
    }

    private static void endBehindRead() {
        TermReader reader = Edge.behindFormer();
        Told before = Told.by(reader);
        Checks.due("end(1)", Checks.thrownByEnd(reader, 1), Checks.WRONG_ARGUMENT);
        Checks.due("end(0)", reader.end(0), 0);
        before.due("behind end(0)", reader);
        Checks.due("broken", Checks.read(reader, "a b."), Checks.BROKEN);
        Checks.due("end(1)", Checks.thrownByEnd(reader, 1), Checks.WRONG_ARGUMENT);
        Checks.due("end(0)", reader.end(0), 0);
        before.withPlace(2).due("the place stays by end", reader);
        Checks.due("too long", Checks.read(reader, LimitsTest.tooLongToPrint()), Checks.TOO_LONG);
        Checks.due("end(1)", Checks.thrownByEnd(reader, 1), Checks.WRONG_ARGUMENT);
        Checks.due("end(0)", reader.end(0), 0);
        before.due("behind a read too long", reader);
    }
}
