/** Promise 2: feed. */
public final class FeedTest {
    public static void main(String[] args) {
        theHighestByteComesFirst();
        everyByteCanCome();
        theTapeGrowsByTwenty();
        theTapeIsFull();
        fullAtEachLengthNearby();
        aThrowChangesNothing();
        theLastBytesCanBeUsed();
        feedBehindRead();
        Checks.finish();
    }

    private static void theHighestByteComesFirst() {
        TermReader reader = new TermReader();
        Checks.due("feed", reader.feed(0x61626364, 0x65666768, 0x696A6B6C, 0x6D6E6F70, 0x7172732E), 20);
        Checks.due("read", reader.read(), 19);
        Told.read("abcdefghijklmnopqrs", 1, 0, 0).due("read", reader);
    }

    // Each byte at each of the twenty places; the first that begins no sign is told by its place.
    private static void everyByteCanCome() {
        int[] bytes = {0, 1, 31, 127, 128, 254, 255};
        for (int other : bytes) {
            for (int i = 0; i < 20; i++) {
                int[] ints = {0x20202020, 0x20202020, 0x20202020, 0x20202020, 0x20202020};
                int shift = 24 - 8 * (i % 4);
                ints[i / 4] = ints[i / 4] & ~(255 << shift) | other << shift;
                TermReader reader = new TermReader();
                reader.feed(ints[0], ints[1], ints[2], ints[3], ints[4]);
                Checks.due("read", Checks.readTape(reader, "byte " + other), Checks.BROKEN);
                Told.NOTHING.withPlace(i).due("byte " + other + " at " + i, reader);
            }
        }
    }

    private static void theTapeGrowsByTwenty() {
        TermReader reader = new TermReader();
        for (int i = 1; i <= 204; i++) {
            Checks.due("feed", reader.feed(-1, 0, Integer.MIN_VALUE, Integer.MAX_VALUE, 1), 20 * i);
            Checks.due("count(0)", reader.count(0), 20 * i);
        }
    }

    private static void theTapeIsFull() {
        TermReader reader = new TermReader();
        for (int i = 1; i <= 204; i++) {
            reader.feed(0, 0, 0, 0, 0);
        }
        Checks.due("feed at 4080", Checks.thrownByFeed(reader), Checks.TOO_LONG);
        Told.NOTHING.withTape(4080).due("feed at 4080", reader);
        reader.end(4077);
        Checks.due("feed at 4077", Checks.thrownByFeed(reader), Checks.TOO_LONG);
        Told.NOTHING.withTape(4077).due("feed at 4077", reader);
        reader.end(4076);
        Checks.due("feed at 4076", reader.feed(0, 0, 0, 0, 0), 4096);
        Checks.due("feed at 4096", Checks.thrownByFeed(reader), Checks.TOO_LONG);
        Told.NOTHING.withTape(4096).due("feed at 4096", reader);
    }

    private static void fullAtEachLengthNearby() {
        for (int length = 4060; length <= 4096; length++) {
            TermReader reader = new TermReader();
            Checks.feed(reader, "a".repeat(length));
            boolean room = length + 20 <= 4096;
            Checks.due("feed at " + length, Checks.thrownByFeed(reader), room ? 0 : Checks.TOO_LONG);
            Told.NOTHING.withTape(room ? length + 20 : length).due("feed at " + length, reader);
        }
    }

    private static void aThrowChangesNothing() {
        TermReader reader = Edge.behindFormer();
        Checks.due("broken", Checks.read(reader, "a b."), Checks.BROKEN);
        String text = "'" + "b".repeat(4076) + "'.";
        Checks.feed(reader, text);
        Told before = Told.by(reader);
        for (int i = 0; i < 3; i++) {
            Checks.due("feed", Checks.thrownByFeed(reader), Checks.TOO_LONG);
            before.due("behind a feed that throws", reader);
        }
        // Nothing of the 20 bytes came to the tape.
        Checks.due("read", Checks.readTape(reader, text), 0);
        Checks.due("bytes", reader.count(1), 4076);
    }

    private static void theLastBytesCanBeUsed() {
        Edge.within(" ".repeat(4089) + "f(a,b).", "f(a,b)");
        Edge.within("a".repeat(4095) + ".", "a".repeat(4095));
        Edge.beyond(" ".repeat(4088) + "f(a,b).b", 4094);
        Edge.beyond(" ".repeat(4088) + "f(a,b) c", 4095);
    }

    private static void feedBehindRead() {
        TermReader reader = new TermReader();
        Checks.read(reader, "abcdefgh.");
        Checks.due("feed", reader.feed(0x782E2020, 0x20202020, 0x20202020, 0x20202020, 0x20202020), 20);
        Told.read("abcdefgh", 1, 0, 0).withTape(20).due("behind feed", reader);
        Checks.due("read", reader.read(), 1);
        Told.read("x", 1, 0, 0).due("behind read", reader);
        Checks.due("broken", Checks.read(reader, "a b."), Checks.BROKEN);
        Checks.due("feed", reader.feed(0x792E2020, 0x20202020, 0x20202020, 0x20202020, 0x20202020), 20);
        Told.read("x", 1, 0, 0).withTape(20).withPlace(2).due("behind feed", reader);
        Checks.due("read", reader.read(), 1);
        Told.read("y", 1, 0, 0).due("behind read", reader);
    }
}
