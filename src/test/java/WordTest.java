/** Promise 6: word. */
public final class WordTest {
    public static void main(String[] args) {
        theHighestFirst();
        zerosBehindItsEnd();
        noneOfItsBytes();
        noneBeforeTheFirstRead();
        aShorterResultBehindALonger();
        theResultStays();
        aFullResult();
        Checks.finish();
    }

    private static TermReader behind(String text) {
        TermReader reader = new TermReader();
        Checks.due("read of " + text, Checks.read(reader, text), 0);
        return reader;
    }

    private static void noWord(TermReader reader, int i) {
        Told before = Told.by(reader);
        Checks.due("word(" + i + ")", Checks.thrownByWord(reader, i), Checks.WRONG_ARGUMENT);
        before.due("behind word(" + i + ")", reader);
    }

    private static void theHighestFirst() {
        TermReader reader = behind("abcdefghijk.");
        Checks.due("word(0)", reader.word(0), 0x6162636465666768L);
        Checks.due("word(1)", reader.word(1), 0x6263646566676869L);
        Checks.due("word(2)", reader.word(2), 0x636465666768696AL);
        Checks.due("word(3)", reader.word(3), 0x6465666768696A6BL);
        Told.read("abcdefghijk", 1, 0, 0).due("behind word", reader);
    }

    private static void zerosBehindItsEnd() {
        TermReader reader = behind("abcdefghijk.");
        Checks.due("word(4)", reader.word(4), 0x65666768696A6B00L);
        Checks.due("word(5)", reader.word(5), 0x666768696A6B0000L);
        Checks.due("word(6)", reader.word(6), 0x6768696A6B000000L);
        Checks.due("word(7)", reader.word(7), 0x68696A6B00000000L);
        Checks.due("word(8)", reader.word(8), 0x696A6B0000000000L);
        Checks.due("word(9)", reader.word(9), 0x6A6B000000000000L);
        Checks.due("word(10)", reader.word(10), 0x6B00000000000000L);
        Checks.due("word(0) of one byte", behind("a.").word(0), 0x6100000000000000L);
        Checks.due("word(0) of eight bytes", behind("abcdefgh.").word(0), 0x6162636465666768L);
        Checks.due("word(7) of eight bytes", behind("abcdefgh.").word(7), 0x6800000000000000L);
    }

    private static void noneOfItsBytes() {
        for (int i : new int[] {-1, 11, 12, 18, 19, 4095, 4096, Integer.MIN_VALUE, Integer.MAX_VALUE}) {
            noWord(behind("abcdefghijk."), i);
        }
        noWord(behind("a."), 1);
        noWord(behind("a."), -1);
        noWord(behind("abcdefgh."), 8);
    }

    private static void noneBeforeTheFirstRead() {
        TermReader reader = new TermReader();
        noWord(reader, 0);
        Checks.feed(reader, "abcdefgh.");
        noWord(reader, 0);
        Checks.due("broken", Checks.read(reader, " b."), Checks.BROKEN);
        noWord(reader, 0);
        Checks.due("too long", Checks.read(reader, LimitsTest.tooLongToPrint()), Checks.TOO_LONG);
        noWord(reader, 0);
    }

    private static void aShorterResultBehindALonger() {
        TermReader reader = behind("abcdefghijk.");
        for (int i = 0; i < 3; i++) {
            Checks.read(reader, "x.");
            Checks.due("word(0) of the shorter", reader.word(0), 0x7800000000000000L);
            noWord(reader, 1);
            Checks.read(reader, "abcdefghijk.");
            Checks.due("word(3) of the longer", reader.word(3), 0x6465666768696A6BL);
        }
    }

    private static void theResultStays() {
        TermReader reader = behind("abcdefghijk.");
        Checks.feed(reader, "x.");
        Checks.due("word(3) behind feed", reader.word(3), 0x6465666768696A6BL);
        reader.end(1);
        Checks.due("word(3) behind end", reader.word(3), 0x6465666768696A6BL);
        Checks.due("broken", Checks.readTape(reader, "x"), Checks.BROKEN);
        Checks.due("word(3) behind a broken read", reader.word(3), 0x6465666768696A6BL);
        Checks.due("too long", Checks.read(reader, LimitsTest.tooLongToPrint()), Checks.TOO_LONG);
        Checks.due("word(3) behind a read too long", reader.word(3), 0x6465666768696A6BL);
        noWord(reader, 11);
    }

    private static void aFullResult() {
        String text = "'" + "b".repeat(2093) + " '+(" + "a+".repeat(399) + "a).";
        TermReader reader = behind(text);
        Checks.due("bytes", reader.count(1), 4096);
        Checks.due("word(0)", reader.word(0), 0x2B28276262626262L);
        Checks.due("word(4088)", reader.word(4088), 0x292C61292C612929L);
        Checks.due("word(4089)", reader.word(4089), 0x2C61292C61292900L);
        Checks.due("word(4095)", reader.word(4095), 0x2900000000000000L);
        Checks.due("word(4096)", Checks.thrownByWord(reader, 4096), Checks.WRONG_ARGUMENT);
        Checks.due("bytes", reader.count(1), 4096);
    }
}
