/** One text at a boundary: read, and then every call of the face is asked what it tells. */
final class Edge {
    private static final String FORMER_TEXT = "old([X],Y).";
    private static final Told FORMER = Told.read("old([_0],_1)", 5, 2, 2);

    private Edge() {
    }

    /** Just within: it is read, printed so, and told so. */
    static void within(String text, String printed) {
        String when = "read of " + Checks.brief(text);
        Told due = Plain.told(printed);
        int from = 0;
        do {
            TermReader reader = behindFormer();
            Checks.due(when + ": thrown", Checks.read(reader, text), 0);
            Checks.due(when, Told.by(reader, from).toString(), due.from(from).toString());
            from += Checks.SLICE;
        } while (from < printed.length());
    }

    /** Just beyond: broken at the place, and else all is as it was. */
    static void beyond(String text, int place) {
        stays(text, Checks.BROKEN, place);
    }

    /** Just beyond what a result can hold: no place is told, and else all is as it was. */
    static void tooLong(String text) {
        stays(text, Checks.TOO_LONG, -1);
    }

    static TermReader behindFormer() {
        TermReader reader = new TermReader();
        Checks.due("the former read", Checks.read(reader, FORMER_TEXT), 0);
        FORMER.due("the former read", reader);
        return reader;
    }

    private static void stays(String text, int thrown, int place) {
        throwsAndStays(new TermReader(), text, thrown, Told.NOTHING.withPlace(place));
        throwsAndStays(behindFormer(), text, thrown, FORMER.withPlace(place));
    }

    private static void throwsAndStays(TermReader reader, String text, int thrown, Told due) {
        String when = "read of " + Checks.brief(text);
        Checks.due(when + ": thrown", Checks.read(reader, text), thrown);
        due.due(when, reader);
        Checks.due("the next read", Checks.read(reader, "next(Z)."), 0);
        Told.read("next(_0)", 2, 1, 1).due("the next read behind " + Checks.brief(text), reader);
    }
}
