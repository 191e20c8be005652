import java.util.Random;

/** Calls in any order with any arguments: each is held against what the document says of it alone. */
public final class AnyCallsTest {
    // Each step makes some calls, all together fewer than the 512 that an object is good for.
    private static final int STEPS = 130;
    private static final String[] PIECES = {
        "f(", "a", ",", "X", ")", "[", "]", "|", "-", "\\+ ", " = ", "1", "'", "''", ". ", ".", "%\n", "%", "(", "\u0000", "\u00ff", "_", ";", " mod "};

    private static final String[] TERMS = {
        "a.", "f(X,[Y|_],g(X)).", "X is 2*(3+Y) - -1.", "''.", "[a,b,c,'D e'|T]. % all", "\\+ p :- q, r ; s -> t."};

    private final Random random;
    private final TermReader reader = new TermReader();
    private StringBuilder tape = new StringBuilder();
    private Told told = Told.NOTHING;

    private AnyCallsTest(int seed) {
        random = new Random(seed);
    }

    public static void main(String[] args) {
        for (int seed = 0; seed < 300; seed++) {
            AnyCallsTest test = new AnyCallsTest(seed);
            for (int i = 0; i < STEPS; i++) {
                test.anyStep();
            }
        }
        Checks.finish();
    }

    private void anyStep() {
        switch (random.nextInt(8)) {
            case 0, 1, 2 -> feed();
            case 3 -> end();
            case 4 -> read();
            case 5 -> about();
            case 6 -> word();
            default -> count();
        }
    }

    private int anyNumber(int near) {
        switch (random.nextInt(6)) {
            case 0:
                return random.nextInt();
            case 1:
                return near;
            case 2:
                return near + 1;
            case 3:
                return -1;
            default:
                return near <= 0 ? 0 : random.nextInt(near);
        }
    }

    private void feed() {
        StringBuilder text = new StringBuilder();
        while (text.length() < 20) {
            text.append(PIECES[random.nextInt(PIECES.length)]);
        }
        text.setLength(20);
        if (tape.length() + 20 > 4096) {
            Checks.due("feed", Checks.thrownByFeed(reader), Checks.TOO_LONG);
        } else {
            tape.append(text);
            Checks.feed(reader, text.toString());
        }
        Checks.due("tape", reader.count(0), tape.length());
    }

    private void end() {
        int n = anyNumber(tape.length());
        boolean fits = n >= 0 && n <= tape.length();
        Checks.due("end(" + n + ")", Checks.thrownByEnd(reader, n), fits ? 0 : Checks.WRONG_ARGUMENT);
        if (fits) {
            tape.setLength(n);
        }
    }

    // A read owes nothing to the reads before it: a new object is asked for the same tape.
    private void read() {
        if (random.nextBoolean()) {
            reader.end(0);
            tape = new StringBuilder(TERMS[random.nextInt(TERMS.length)]);
            Checks.feed(reader, tape.toString());
        }
        TermReader other = new TermReader();
        int thrown = Checks.read(other, tape.toString());
        Checks.due("read of " + tape, Checks.readTape(reader, tape.toString()), thrown);
        told = thrown == 0 ? Told.by(other) : told.withPlace(other.count(2));
        tape = new StringBuilder();
        Checks.due("place", reader.count(2), told.place());
        Checks.due("tape", reader.count(0), 0);
    }

    private void about() {
        int what = random.nextInt(3);
        int due = what == 0 ? told.symbols() : what == 1 ? told.variables() : told.nesting();
        Checks.due("about(" + what + ")", reader.about(what), due);
        int wrong = random.nextBoolean() ? -1 - random.nextInt(9) : 3 + random.nextInt(9);
        Checks.due("about(" + wrong + ")", Checks.thrownByAbout(reader, wrong), Checks.WRONG_ARGUMENT);
    }

    private void word() {
        int i = anyNumber(told.bytes());
        boolean fits = i >= 0 && i < told.bytes();
        Checks.due("word(" + i + ")", Checks.thrownByWord(reader, i), fits ? 0 : Checks.WRONG_ARGUMENT);
        if (fits && i < told.result().length()) {
            Checks.due("the byte at " + i, reader.word(i) >>> 56, told.result().charAt(i));
        }
    }

    private void count() {
        int what = random.nextInt(3);
        int due = what == 0 ? tape.length() : what == 1 ? told.bytes() : told.place();
        Checks.due("count(" + what + ")", reader.count(what), due);
        int wrong = random.nextBoolean() ? -1 - random.nextInt(9) : 3 + random.nextInt(9);
        Checks.due("count(" + wrong + ")", Checks.thrownByCount(reader, wrong), Checks.WRONG_ARGUMENT);
    }
}
