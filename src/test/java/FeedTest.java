/** Promise 2: feed. */
public final class FeedTest {
    public static void main(String[] args) {
        theHighestByteComesFirst();
        theTapeGrowsByTwenty();
        theTapeIsFull();
        theLastBytesCanBeUsed();
        Checks.finish();
    }

    static int thrown(TermReader reader) {
        try {
            reader.feed(0x20202020, 0x20202020, 0x20202020, 0x20202020, 0x20202020);
            return 0;
        } catch (IndexOutOfBoundsException e) {
            return 1;
        }
    }

    private static void theHighestByteComesFirst() {
        TermReader reader = new TermReader();
        Checks.due("feed", reader.feed(0x61626364, 0x65666768, 0x696A6B6C, 0x6D6E6F70, 0x7172732E), 20);
        Checks.due("read", reader.read(), 19);
        Checks.due("result", Checks.result(reader), "abcdefghijklmnopqrs");
        // A byte of 128 or more makes an int below 0.
        reader.feed(0x612EFF20, -1, 0, 0, 0);
        reader.end(3);
        Checks.due("read throws", Checks.read(reader, ""), Checks.BROKEN);
        Checks.due("place", reader.count(2), 1);
    }

    private static void theTapeGrowsByTwenty() {
        TermReader reader = new TermReader();
        for (int i = 1; i <= 204; i++) {
            Checks.due("feed", reader.feed(0, 0, 0, 0, 0), 20 * i);
        }
    }

    private static void theTapeIsFull() {
        TermReader reader = new TermReader();
        for (int i = 1; i <= 204; i++) {
            reader.feed(0, 0, 0, 0, 0);
        }
        Checks.due("feed at 4080 throws", thrown(reader), 1);
        Checks.due("tape", reader.count(0), 4080);
        reader.end(4077);
        Checks.due("feed at 4077 throws", thrown(reader), 1);
        Checks.due("tape", reader.count(0), 4077);
        reader.end(4076);
        Checks.due("feed at 4076", reader.feed(0, 0, 0, 0, 0), 4096);
        Checks.due("feed at 4096 throws", thrown(reader), 1);
        Checks.due("tape", reader.count(0), 4096);
    }

    private static void theLastBytesCanBeUsed() {
        TermReader reader = new TermReader();
        Checks.due("read of 4096 bytes", Checks.read(reader, " ".repeat(4089) + "f(a,b)."), 0);
        Checks.due("result", Checks.result(reader), "f(a,b)");
        Checks.due("read of 4096 bytes", Checks.read(reader, "a".repeat(4095) + "."), 0);
        Checks.due("result", Checks.result(reader), "a".repeat(4095));
    }
}
