import java.nio.charset.StandardCharsets;

/** What the tests share: texts in and out of a TermReader, and the telling of wrong answers. */
final class Checks {
    static final int BROKEN = 1;
    static final int TOO_LONG = 2;

    private static int wrong = 0;
    private static int asked = 0;

    private Checks() {
    }

    static void due(String call, long got, long want) {
        asked++;
        if (got != want) {
            tell(call + " answered " + got + ", due is " + want);
        }
    }

    static void due(String call, String got, String want) {
        asked++;
        if (!got.equals(want)) {
            tell(call + " answered " + got + ", due is " + want);
        }
    }

    static void finish() {
        System.out.println(asked + " answers looked at, " + wrong + " wrong");
        if (wrong != 0) {
            System.exit(1);
        }
    }

    /** Brings the text to the tape: 20 bytes at a time, what is too much is cut off at once. */
    static void feed(TermReader reader, String text) {
        byte[] bytes = text.getBytes(StandardCharsets.ISO_8859_1);
        // The part that is no full 20 goes first, so that even 4096 bytes find room.
        int size = bytes.length % 20 == 0 ? 20 : bytes.length % 20;
        for (int from = 0; from < bytes.length; from += size, size = 20) {
            int[] ints = new int[5];
            for (int i = 0; i < size; i++) {
                ints[i / 4] |= (bytes[from + i] & 255) << (24 - 8 * (i % 4));
            }
            int length = reader.feed(ints[0], ints[1], ints[2], ints[3], ints[4]);
            reader.end(length - 20 + size);
        }
    }

    static String result(TermReader reader) {
        StringBuilder text = new StringBuilder();
        int length = reader.count(1);
        for (int i = 0; i < length; i++) {
            text.append((char) (reader.word(i) >>> 56));
        }
        return text.toString();
    }

    /** 0: the read went well, else BROKEN or TOO_LONG. */
    static int read(TermReader reader, String text) {
        feed(reader, text);
        try {
            int length = reader.read();
            due("count(1) behind read of " + brief(text), reader.count(1), length);
            return 0;
        } catch (UnsupportedOperationException e) {
            return BROKEN;
        } catch (IndexOutOfBoundsException e) {
            return TOO_LONG;
        }
    }

    static void prints(String text, String printed) {
        TermReader reader = new TermReader();
        due("read of " + brief(text) + ": thrown", read(reader, text), 0);
        due("read of " + brief(text), result(reader), printed);
        due("PLACE of " + brief(text), reader.count(2), -1);
    }

    static void breaks(String text, int place) {
        TermReader reader = new TermReader();
        due("read of " + brief(text) + ": thrown", read(reader, text), BROKEN);
        due("PLACE of " + brief(text), reader.count(2), place);
        due("count(0) behind broken " + brief(text), reader.count(0), 0);
    }

    static void tells(String text, int symbols, int variables, int nesting) {
        TermReader reader = new TermReader();
        due("read of " + brief(text) + ": thrown", read(reader, text), 0);
        due("about(0) of " + brief(text), reader.about(0), symbols);
        due("about(1) of " + brief(text), reader.about(1), variables);
        due("about(2) of " + brief(text), reader.about(2), nesting);
    }

    private static void tell(String what) {
        wrong++;
        System.out.println(what);
    }

    private static String brief(String text) {
        return text.length() <= 60 ? text : text.substring(0, 60) + ".. (" + text.length() + " bytes)";
    }
}
