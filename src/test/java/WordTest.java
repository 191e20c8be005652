/** Promise 6: word. */
public final class WordTest {
    public static void main(String[] args) {
        TermReader reader = new TermReader();
        Checks.read(reader, "abcdefghijk.");
        Checks.due("word(0)", reader.word(0), 0x6162636465666768L);
        Checks.due("word(1)", reader.word(1), 0x6263646566676869L);
        Checks.due("word(3)", reader.word(3), 0x6465666768696A6BL);
        Checks.due("word(4)", reader.word(4), 0x65666768696A6B00L);
        Checks.due("word(10)", reader.word(10), 0x6B00000000000000L);
        Checks.due("word(11) throws", thrown(reader, 11), 1);
        Checks.due("word(-1) throws", thrown(reader, -1), 1);
        Checks.due("word(least int) throws", thrown(reader, Integer.MIN_VALUE), 1);
        Checks.due("word(greatest int) throws", thrown(reader, Integer.MAX_VALUE), 1);
        Checks.read(reader, "a.");
        Checks.due("word(0) of the shorter", reader.word(0), 0x6100000000000000L);
        Checks.due("word(1) of the shorter throws", thrown(reader, 1), 1);
        Checks.read(reader, "'" + "b".repeat(4091) + " '.");
        Checks.due("bytes", reader.count(1), 4094);
        Checks.due("the last word", reader.word(4093), 0x2700000000000000L);
        Checks.due("word behind it throws", thrown(reader, 4094), 1);
        Checks.finish();
    }

    static int thrown(TermReader reader, int i) {
        try {
            reader.word(i);
            return 0;
        } catch (IndexOutOfBoundsException e) {
            return 1;
        }
    }
}
