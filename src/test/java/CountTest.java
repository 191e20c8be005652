/** Promise 7: count. */
public final class CountTest {
    public static void main(String[] args) {
        bytesOfTheTape();
        bytesOfTheResult();
        thePlaceOfTheLatestRead();
        noPlaceIfNoneWasTold();
        noPlaceBefore();
        whatZeroToTwo();
        Checks.finish();
    }

    private static void bytesOfTheTape() {
        TermReader reader = new TermReader();
        Checks.due("tape", reader.count(0), 0);
        Checks.feed(reader, "f( a ).");
        Checks.due("tape", reader.count(0), 7);
        reader.feed(0, 0, 0, 0, 0);
        Checks.due("tape", reader.count(0), 27);
        reader.end(7);
        Checks.due("tape", reader.count(0), 7);
        reader.read();
        Checks.due("tape behind read", reader.count(0), 0);
    }

    private static void bytesOfTheResult() {
        TermReader reader = new TermReader();
        Checks.due("result", reader.count(1), 0);
        Checks.feed(reader, "f( a ).");
        Checks.due("result behind feed", reader.count(1), 0);
        reader.read();
        Checks.due("result", reader.count(1), 4);
        Checks.due("broken", Checks.read(reader, "a b."), Checks.BROKEN);
        Checks.due("result behind a broken read", reader.count(1), 4);
        Checks.due("too long", Checks.read(reader, LimitsTest.tooLongToPrint()), Checks.TOO_LONG);
        Checks.due("result behind a read too long", reader.count(1), 4);
        Checks.read(reader, "''.");
        Checks.due("result", reader.count(1), 2);
    }

    private static void thePlaceOfTheLatestRead() {
        TermReader reader = new TermReader();
        Checks.due("broken", Checks.read(reader, "a b."), Checks.BROKEN);
        Checks.due("place", reader.count(2), 2);
        Checks.feed(reader, "c.");
        Checks.due("the place stays until the next read", reader.count(2), 2);
        reader.end(1);
        Checks.due("the place stays until the next read", reader.count(2), 2);
        Checks.due("broken", Checks.readTape(reader, "c"), Checks.BROKEN);
        Checks.due("place", reader.count(2), 1);
        Checks.due("broken", Checks.read(reader, ")"), Checks.BROKEN);
        Checks.due("the first place of all", reader.count(2), 0);
        Checks.due("broken", Checks.read(reader, "a".repeat(4096)), Checks.BROKEN);
        Checks.due("the last place of all", reader.count(2), 4096);
    }

    private static void noPlaceIfNoneWasTold() {
        TermReader reader = new TermReader();
        Checks.due("well", Checks.read(reader, "a."), 0);
        Checks.due("no place", reader.count(2), -1);
        Checks.due("broken", Checks.read(reader, ")"), Checks.BROKEN);
        Checks.due("well", Checks.read(reader, "a."), 0);
        Checks.due("no place behind a read that went well", reader.count(2), -1);
        Checks.due("broken", Checks.read(reader, ")"), Checks.BROKEN);
        Checks.due("too long", Checks.read(reader, LimitsTest.tooLongToPrint()), Checks.TOO_LONG);
        Checks.due("no place behind a read too long", reader.count(2), -1);
    }

    private static void noPlaceBefore() {
        TermReader reader = new TermReader();
        Checks.due("no place", reader.count(2), -1);
        Checks.feed(reader, ")");
        Checks.due("no place behind feed", reader.count(2), -1);
        reader.end(0);
        Checks.due("no place behind end", reader.count(2), -1);
    }

    private static void whatZeroToTwo() {
        TermReader reader = Edge.behindFormer();
        Told before = Told.by(reader);
        for (int what = 0; what <= 2; what++) {
            Checks.due("count(" + what + ")", Checks.thrownByCount(reader, what), 0);
            before.due("behind count(" + what + ")", reader);
        }
        for (int what : new int[] {-1, -2, 3, 4, Integer.MIN_VALUE, Integer.MAX_VALUE}) {
            Checks.due("count(" + what + ")", Checks.thrownByCount(reader, what), Checks.WRONG_ARGUMENT);
            before.due("behind count(" + what + ")", reader);
        }
    }
}
