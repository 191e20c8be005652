import java.nio.charset.StandardCharsets;

/** What the tests share: texts in and out of a TermReader, and the telling of wrong answers. */
final class Checks {
    static final int BROKEN = 1;
    static final int TOO_LONG = 2;
    static final int WRONG_ARGUMENT = 3;
    /** So many bytes of a result are looked at on one object, which is good for 512 calls alone. */
    static final int SLICE = 1600;

    private static final int BRIEF = 160;

    private static int wrong = 0;
    private static int asked = 0;

    private Checks() {
    }

    static void due(String call, long got, long want) {
        asked++;
        if (got != want) {
            tell(call + " answered " + got + ", due is " + want);
        }
    }

    static void due(String call, String got, String want) {
        asked++;
        if (!got.equals(want)) {
            tell(call + " answered " + brief(got) + ", due is " + brief(want));
        }
    }

    static void finish() {
        System.out.println(asked + " answers looked at, " + wrong + " wrong");
        if (wrong != 0) {
            System.exit(1);
        }
    }

    /** Brings the text to the tape, 20 bytes at a time. */
    static void feed(TermReader reader, String text) {
        byte[] bytes = text.getBytes(StandardCharsets.ISO_8859_1);
        // The part that is no full 20 goes first, so that even 4096 bytes find room.
        int size = bytes.length % 20;
        if (size > 0) {
            int length = feedPart(reader, bytes, 0, size);
            reader.end(length - 20 + size);
        }
        for (int from = size; from < bytes.length; from += 20) {
            feedPart(reader, bytes, from, 20);
        }
    }

    private static int feedPart(TermReader reader, byte[] bytes, int from, int size) {
        int[] ints = new int[5];
        for (int i = 0; i < size; i++) {
            ints[i / 4] |= (bytes[from + i] & 255) << (24 - 8 * (i % 4));
        }
        return reader.feed(ints[0], ints[1], ints[2], ints[3], ints[4]);
    }

    static String result(TermReader reader) {
        return result(reader, 0, reader.count(1));
    }

    /** Some bytes of the result, read by as few calls as can be: an object is good for 512 alone. */
    static String result(TermReader reader, int from, int to) {
        int length = reader.count(1);
        int end = Math.min(to, length);
        StringBuilder text = new StringBuilder();
        for (int i = from; i < end; i += 8) {
            long word = reader.word(i);
            for (int k = 0; k < 8; k++) {
                char next = (char) (word >>> (56 - 8 * k) & 255);
                if (i + k < end) {
                    text.append(next);
                } else if (i + k >= length) {
                    due("a byte behind the end of the result", next, 0);
                }
            }
        }
        return text.toString();
    }

    /** 0: the read went well, else BROKEN or TOO_LONG. */
    static int read(TermReader reader, String text) {
        feed(reader, text);
        return readTape(reader, text);
    }

    static int readTape(TermReader reader, String text) {
        try {
            int length = reader.read();
            due("count(1) behind read of " + brief(text), reader.count(1), length);
            return 0;
        } catch (UnsupportedOperationException e) {
            return exactly(UnsupportedOperationException.class, e, BROKEN);
        } catch (IndexOutOfBoundsException e) {
            return exactly(IndexOutOfBoundsException.class, e, TOO_LONG);
        }
    }

    // One that Java throws by itself at an array's end is another class, below the one that is due.
    private static int exactly(Class<?> exception, RuntimeException thrown, int kind) {
        due("the exception's class", thrown.getClass().getName(), exception.getName());
        return kind;
    }

    /** 0: the call went well, else TOO_LONG for the tape. */
    static int thrownByFeed(TermReader reader) {
        try {
            reader.feed(0x20202020, 0x20202020, 0x20202020, 0x20202020, 0x20202020);
            return 0;
        } catch (IndexOutOfBoundsException e) {
            return exactly(IndexOutOfBoundsException.class, e, TOO_LONG);
        }
    }

    static int thrownByEnd(TermReader reader, int n) {
        try {
            reader.end(n);
            return 0;
        } catch (IllegalArgumentException e) {
            return exactly(IllegalArgumentException.class, e, WRONG_ARGUMENT);
        }
    }

    static int thrownByAbout(TermReader reader, int what) {
        try {
            reader.about(what);
            return 0;
        } catch (IllegalArgumentException e) {
            return exactly(IllegalArgumentException.class, e, WRONG_ARGUMENT);
        }
    }

    static int thrownByWord(TermReader reader, int i) {
        try {
            reader.word(i);
            return 0;
        } catch (IndexOutOfBoundsException e) {
            return exactly(IndexOutOfBoundsException.class, e, WRONG_ARGUMENT);
        }
    }

    static int thrownByCount(TermReader reader, int what) {
        try {
            reader.count(what);
            return 0;
        } catch (IllegalArgumentException e) {
            return exactly(IllegalArgumentException.class, e, WRONG_ARGUMENT);
        }
    }

    static void prints(String text, String printed) {
        int from = 0;
        do {
            int to = Math.min(from + SLICE, printed.length());
            TermReader reader = new TermReader();
            due("read of " + brief(text) + ": thrown", read(reader, text), 0);
            due("bytes of " + brief(text), reader.count(1), printed.length());
            due("read of " + brief(text), result(reader, from, to), printed.substring(from, to));
            due("PLACE of " + brief(text), reader.count(2), -1);
            from += SLICE;
        } while (from < printed.length());
    }

    static void breaks(String text, int place) {
        TermReader reader = new TermReader();
        due("read of " + brief(text) + ": thrown", read(reader, text), BROKEN);
        due("PLACE of " + brief(text), reader.count(2), place);
        due("count(0) behind broken " + brief(text), reader.count(0), 0);
    }

    static void tells(String text, int symbols, int variables, int nesting) {
        TermReader reader = new TermReader();
        due("read of " + brief(text) + ": thrown", read(reader, text), 0);
        due("about(0) of " + brief(text), reader.about(0), symbols);
        due("about(1) of " + brief(text), reader.about(1), variables);
        due("about(2) of " + brief(text), reader.about(2), nesting);
    }

    static String brief(String text) {
        return text.length() <= BRIEF ? text : text.substring(0, BRIEF) + ".. (" + text.length() + " bytes)";
    }

    private static void tell(String what) {
        wrong++;
        System.out.println(what);
    }
}
