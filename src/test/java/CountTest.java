/** Promise 7: count. */
public final class CountTest {
    public static void main(String[] args) {
        TermReader reader = new TermReader();
        Checks.feed(reader, "f( a ).");
        Checks.due("bytes of the tape", reader.count(0), 7);
        reader.read();
        Checks.due("bytes of the tape behind read", reader.count(0), 0);
        Checks.due("bytes of the result", reader.count(1), 4);
        Checks.due("no place", reader.count(2), -1);
        Checks.read(reader, "a b.");
        Checks.due("place", reader.count(2), 2);
        Checks.due("bytes of the result stay", reader.count(1), 4);
        Checks.feed(reader, "c.");
        Checks.due("the place stays until the next read", reader.count(2), 2);
        reader.read();
        Checks.due("the place is gone", reader.count(2), -1);
        Checks.read(reader, ")");
        Checks.due("place", reader.count(2), 0);
        Checks.due("too long", Checks.read(reader, LimitsTest.tooLongToPrint()), Checks.TOO_LONG);
        Checks.due("a result too long tells no place", reader.count(2), -1);
        for (int what : new int[] {-1, 3, Integer.MIN_VALUE, Integer.MAX_VALUE}) {
            Checks.due("count(" + what + ") throws", thrown(reader, what), 1);
        }
        Checks.finish();
    }

    private static int thrown(TermReader reader, int what) {
        try {
            reader.count(what);
            return 0;
        } catch (IllegalArgumentException e) {
            return 1;
        }
    }
}
