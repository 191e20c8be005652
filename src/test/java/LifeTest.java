import com.sun.management.ThreadMXBean;
import java.lang.management.ManagementFactory;

/** "An object is used for at most 512 calls": to the last of them, and with little room for all of them. */
public final class LifeTest {
    private static final int CALLS = 512;
    // The short term is printed f(_0,[_1|_0],a).
    private static final int PRINTED = 15;
    // The rows of one object have some 56,000 bytes; its calls make nothing but what they throw.
    private static final int MOST_BYTES = 65536;

    public static void main(String[] args) {
        manyReadsOfTheEmptyTape();
        manyShortTerms();
        aLongTermAndItsWords();
        termsInTurnWithBrokenOnes();
        littleRoomForAllCalls();
        Checks.finish();
    }

    private static void manyReadsOfTheEmptyTape() {
        TermReader reader = new TermReader();
        for (int call = 1; call < CALLS; call++) {
            int thrown = 0;
            try {
                reader.read();
            } catch (UnsupportedOperationException e) {
                thrown = Checks.BROKEN;
            }
            Checks.due("call " + call, thrown, Checks.BROKEN);
        }
        Checks.due("the last call", reader.count(2), 0);
    }

    private static void manyShortTerms() {
        TermReader reader = new TermReader();
        for (int call = 2; call <= CALLS; call += 2) {
            Checks.due("feed", feedShort(reader), 20);
            Checks.due("call " + call, reader.read(), PRINTED);
        }
    }

    // f(X,[Y|X],a). and blanks.
    private static int feedShort(TermReader reader) {
        return reader.feed(0x6628582C, 0x5B597C58, 0x5D2C6129, 0x2E202020, 0x20202020);
    }

    private static void aLongTermAndItsWords() {
        String name = "b".repeat(4076) + " ";
        TermReader reader = new TermReader();
        // 204 calls of feed, one of read and one of count, and then one a word.
        Checks.due("read", Checks.read(reader, "'" + name + "'."), 0);
        int calls = 206;
        for (int i = 0; calls < CALLS; i++) {
            long due = i == 0 ? 0x2762626262626262L : 0x6262626262626262L;
            Checks.due("word " + i, reader.word(8 * i), due);
            calls++;
        }
    }

    private static void termsInTurnWithBrokenOnes() {
        TermReader reader = new TermReader();
        for (int call = 8; call <= CALLS; call += 8) {
            feedShort(reader);
            Checks.due("read", reader.read(), PRINTED);
            reader.feed(0x66285829, 0, 0, 0, 0);
            int thrown = Checks.readTape(reader, "f(X) and zeros");
            Checks.due("broken", thrown, Checks.BROKEN);
            Checks.due("place", reader.count(2), 4);
            Checks.due("bytes", reader.count(1), PRINTED);
            Checks.due("symbols", reader.about(0), 6);
            Checks.due("word", reader.word(8), 0x7C5F305D2C612900L);
        }
    }

    private static void littleRoomForAllCalls() {
        ThreadMXBean threads = (ThreadMXBean) ManagementFactory.getThreadMXBean();
        // The first life has what Java makes once for all.
        wholeLife();
        long before = threads.getCurrentThreadAllocatedBytes();
        wholeLife();
        long made = threads.getCurrentThreadAllocatedBytes() - before;
        Checks.due(made + " bytes made are few", made <= MOST_BYTES ? 1 : 0, 1);
    }

    private static void wholeLife() {
        TermReader reader = new TermReader();
        for (int call = 4; call <= CALLS; call += 4) {
            feedShort(reader);
            int bytes = reader.read();
            reader.word(bytes - 1);
            reader.about(call % 3);
        }
    }
}
