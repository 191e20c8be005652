/** Promise 4: terms open at a time, symbols, bytes of the result, and how deep the calls go. */
public final class LimitsTest {
    public static void main(String[] args) {
        openTerms();
        openTermsEnd();
        symbols();
        symbolsIfNothingElseIsBroken();
        bytesOfTheResult();
        callsStayLow();
        Checks.finish();
    }

    /** 963 symbols, 832 of them variables, most of which are printed in four bytes and a comma. */
    static String tooLongToPrint() {
        String eight = "f(_,_,_,_,_,_,_,_)";
        String sixtyFour = "f(" + eight + (("," + eight).repeat(7)) + ")";
        return "[" + sixtyFour + ("," + sixtyFour).repeat(12) + "].";
    }

    private static void openTerms() {
        Checks.prints("(".repeat(99) + "a" + ")".repeat(99) + ".", "a");
        Checks.breaks("(".repeat(100) + "a" + ")".repeat(100) + ".", 100);
        Checks.breaks("(".repeat(200) + "a" + ")".repeat(200) + ".", 100);
        Checks.prints("[".repeat(99) + "a" + "]".repeat(99) + ".", "[".repeat(99) + "a" + "]".repeat(99));
        Checks.breaks(" " + "[".repeat(100) + "a" + "]".repeat(100) + ".", 101);
        Checks.prints("f(".repeat(99) + "a" + ")".repeat(99) + ".", "f(".repeat(99) + "a" + ")".repeat(99));
        Checks.breaks("f(".repeat(100) + "a" + ")".repeat(100) + ".", 200);
        Checks.prints("- ".repeat(99) + "a.", "-(".repeat(99) + "a" + ")".repeat(99));
        Checks.breaks("- ".repeat(100) + "a.", 200);
        Checks.prints("- ".repeat(100) + ".", "-(".repeat(99) + "-" + ")".repeat(99));
        Checks.prints("a," .repeat(99) + "a.", "','(a,".repeat(99) + "a" + ")".repeat(99));
        Checks.breaks("a," .repeat(100) + " a.", 201);
        Checks.prints("[b|".repeat(99) + "a" + "]".repeat(99) + ".", "[b" + ",b".repeat(98) + "|a]");
        Checks.breaks("[b|".repeat(100) + "a" + "]".repeat(100) + ".", 298);
        Checks.breaks("(".repeat(100) + "  ", 102);
        Checks.prints("f(b,".repeat(99) + "a" + ")".repeat(99) + ".", "f(b,".repeat(99) + "a" + ")".repeat(99));
        Checks.breaks("f(b,".repeat(100) + "a" + ")".repeat(100) + ".", 398);
        Checks.prints("[b,".repeat(99) + "a" + "]".repeat(99) + ".", "[b,".repeat(99) + "a" + "]".repeat(99));
        Checks.breaks("[b,".repeat(100) + "a" + "]".repeat(100) + ".", 298);
    }

    private static void openTermsEnd() {
        Checks.prints("a" + "+a".repeat(300) + ".", "+(".repeat(300) + "a" + ",a)".repeat(300));
        Checks.prints("[a" + ",a".repeat(300) + "].", "[a" + ",a".repeat(300) + "]");
        Checks.prints("(((a)))" + ",((a))".repeat(60) + ".", "','(a,".repeat(60) + "a" + ")".repeat(60));
        String deep = "(".repeat(97) + "a" + ")".repeat(97);
        Checks.prints("f(" + deep + "," + deep + "," + deep + ").", "f(a,a,a)");
        Checks.prints("(".repeat(98) + "a=b" + ")".repeat(98) + ".", "=(a,b)");
        Checks.breaks("(".repeat(99) + "a=b" + ")".repeat(99) + ".", 101);
    }

    private static void symbols() {
        Checks.tells("[a" + ",a".repeat(498) + "].", 999, 0, 499);
        Checks.tells("[- a" + ",a".repeat(498) + "].", 1000, 0, 499);
        Checks.breaks("[a" + ",a".repeat(499) + "].", 0);
        Checks.tells("[a" + ",a".repeat(498) + "|b].", 999, 0, 499);
        Checks.breaks("[a" + ",a".repeat(499) + "|b].", 0);
        Checks.tells("a" + "+a".repeat(499) + ".", 999, 0, 499);
        Checks.breaks(" %x\n a" + "+a".repeat(500) + ".", 5);
        Checks.breaks("  ([a" + ",a".repeat(2000) + "]).", 2);
        Checks.breaks("X" + "+X".repeat(2000) + ".", 0);
        Checks.breaks("[_" + ",_".repeat(2046) + "].", 0);
    }

    private static void symbolsIfNothingElseIsBroken() {
        String many = " [a" + ",a".repeat(600) + "]";
        Checks.breaks(many + ".", 1);
        Checks.breaks(many + " ", many.length() + 1);
        Checks.breaks(many + ". b", many.length() + 2);
        Checks.breaks(many + ".'", many.length());
        Checks.breaks(many + "= \"", many.length() + 2);
        Checks.breaks(many + "=a=b.", many.length() + 2);
    }

    private static void bytesOfTheResult() {
        TermReader reader = new TermReader();
        Checks.read(reader, "f(X).");
        Checks.due("too long", Checks.read(reader, tooLongToPrint()), Checks.TOO_LONG);
        Checks.due("the result stays", Checks.result(reader), "f(_0)");
        Checks.due("the tape is empty", reader.count(0), 0);
        Checks.due("no place", reader.count(2), -1);
        exactly(4096);
        exactly(4097);
    }

    // Each a+ grows from two bytes to five, a name fills up what is left.
    private static void exactly(int bytes) {
        int sums = 400;
        String name = "b".repeat(bytes - 5 * sums);
        TermReader reader = new TermReader();
        int thrown = Checks.read(reader, name + "+a".repeat(sums) + ".");
        Checks.due(bytes + " bytes", thrown, bytes <= 4096 ? 0 : Checks.TOO_LONG);
        Checks.due(bytes + " bytes", reader.count(1), bytes <= 4096 ? bytes : 0);
    }

    private static void callsStayLow() {
        String[] openings = {"(", "[", "f(", "- ", "\\+ ", "a,", "a;", "[b|", "f(b,", "b=f(", "-(", "[b,"};
        for (String opening : openings) {
            TermReader reader = new TermReader();
            Checks.feed(reader, opening.repeat(101));
            int calls = 0;
            try {
                reader.read();
            } catch (UnsupportedOperationException e) {
                calls = e.getStackTrace().length;
            }
            Checks.due("calls open in " + opening, calls > 0 && calls < 300 ? 1 : 0, 1);
        }
    }
}
