/** What the calls that change nothing tell of a reader; of the result so much as one object may be asked. */
record Told(int tape, int bytes, int place, int symbols, int variables, int nesting, String result) {
    /** As a new object tells. */
    static final Told NOTHING = new Told(0, 0, -1, 0, 0, 0, "");

    static Told by(TermReader reader) {
        return by(reader, 0);
    }

    static Told by(TermReader reader, int from) {
        return new Told(
            reader.count(0), reader.count(1), reader.count(2), reader.about(0), reader.about(1), reader.about(2),
            Checks.result(reader, from, from + Checks.SLICE));
    }

    static Told read(String printed, int symbols, int variables, int nesting) {
        return new Told(0, printed.length(), -1, symbols, variables, nesting, printed);
    }

    Told withTape(int length) {
        return new Told(length, bytes, place, symbols, variables, nesting, result);
    }

    Told withPlace(int where) {
        return new Told(tape, bytes, where, symbols, variables, nesting, result);
    }

    Told from(int first) {
        int to = Math.min(first + Checks.SLICE, result.length());
        return new Told(tape, bytes, place, symbols, variables, nesting, result.substring(first, to));
    }

    void due(String when, TermReader reader) {
        Checks.due(when, by(reader).toString(), toString());
    }
}
