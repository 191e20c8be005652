/** Promise 3: end. */
public final class EndTest {
    public static void main(String[] args) {
        TermReader reader = new TermReader();
        Checks.feed(reader, "abc. and what is cut");
        Checks.due("end(-1) throws", thrown(reader, -1), 1);
        Checks.due("end(21) throws", thrown(reader, 21), 1);
        Checks.due("end(least int) throws", thrown(reader, Integer.MIN_VALUE), 1);
        Checks.due("end(greatest int) throws", thrown(reader, Integer.MAX_VALUE), 1);
        Checks.due("tape behind the throws", reader.count(0), 20);
        Checks.due("end(20)", reader.end(20), 20);
        Checks.due("end(5)", reader.end(5), 5);
        Checks.due("tape", reader.count(0), 5);
        Checks.due("end(6) throws: what was cut is gone", thrown(reader, 6), 1);
        Checks.due("end(4)", reader.end(4), 4);
        Checks.due("read", reader.read(), 3);
        Checks.due("result", Checks.result(reader), "abc");
        Checks.due("end(1) behind read throws", thrown(reader, 1), 1);
        Checks.due("end(0) behind read", reader.end(0), 0);
        theNextBytesComeBehindThoseKept();
        Checks.finish();
    }

    private static int thrown(TermReader reader, int n) {
        try {
            reader.end(n);
            return 0;
        } catch (IllegalArgumentException e) {
            return 1;
        }
    }

    private static void theNextBytesComeBehindThoseKept() {
        TermReader reader = new TermReader();
        Checks.feed(reader, "abXXXXXXXXXXXXXXXXXX");
        reader.end(2);
        Checks.due("read", Checks.read(reader, "(c)."), 0);
        Checks.due("result", Checks.result(reader), "ab(c)");
    }
}
