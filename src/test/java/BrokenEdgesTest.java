/** The document's part "Terms", what is broken: at which place, just within and just beyond. */
public final class BrokenEdgesTest {
    public static void main(String[] args) {
        theFirstSignThatCannotStandThere();
        placesCountFromZero();
        itsLengthAtTheEnd();
        anIntegerTooGreat();
        aQuoteThatIsNotClosed();
        aByteThatBeginsNoSign();
        theFirstOfSeveral();
        atTheNinthTerm();
        hundredTermsOpen();
        hundredTermsOpenByEachWay();
        termsThatEndedAreNotOpen();
        theFirstSignOfOneMore();
        thousandSymbols();
        thousandSymbolsOfEachKind();
        symbolsAtTheFirstSign();
        symbolsIfNothingElseIsBroken();
        symbolsBeforeBytesOfTheResult();
        behindEnd();
        Checks.finish();
    }

    private static void theFirstSignThatCannotStandThere() {
        Edge.beyond("a b.", 2);
        Edge.beyond("a b c d.", 2);
        Edge.beyond("X Y.", 2);
        Edge.beyond("f(a b).", 4);
        Edge.beyond("f(a,,b).", 4);
        Edge.beyond("f(a;b).", 3);
        Edge.beyond("a :- b :- c.", 7);
        Edge.beyond("a = b = c.", 6);
        Edge.beyond(". a.", 0);
        Edge.beyond("a = .", 4);
        Edge.beyond("a , .", 4);
        Edge.beyond("[a|b)c.", 4);
    }

    private static void placesCountFromZero() {
        Edge.beyond(")", 0);
        Edge.beyond(" )", 1);
        Edge.beyond("\t\n\r )", 4);
        Edge.beyond("%)\n)", 3);
        Edge.beyond(" ".repeat(4095) + ")", 4095);
        // The signs have their own places, not those behind them.
        Edge.beyond("a bcd.", 2);
        Edge.beyond("a 'b c'.", 2);
        Edge.beyond("a 123.", 2);
        Edge.beyond("a []", 2);
    }

    private static void itsLengthAtTheEnd() {
        Edge.beyond("", 0);
        Edge.beyond(" ", 1);
        Edge.beyond("%", 1);
        Edge.beyond("a", 1);
        Edge.beyond("a ", 2);
        Edge.beyond("a %b", 4);
        Edge.beyond("f(", 2);
        Edge.beyond("f(a", 3);
        Edge.beyond("f(a,", 4);
        Edge.beyond("f(a)", 4);
        Edge.beyond("[", 1);
        Edge.beyond("[a|", 3);
        Edge.beyond("(", 1);
        Edge.beyond("(a", 2);
        Edge.beyond("a+", 2);
        Edge.beyond("a,", 2);
        Edge.beyond("-", 1);
        Edge.beyond("a=.", 1);
        Edge.beyond("X", 1);
        Edge.beyond("17", 2);
        Edge.beyond("'a'", 3);
        Edge.beyond("a" + " ".repeat(4095), 4096);
    }

    private static void anIntegerTooGreat() {
        Edge.within("a = 9007199254740991.", "=(a,9007199254740991)");
        Edge.beyond("a = 9007199254740992.", 4);
        Edge.beyond("[a|9007199254740992].", 3);
        Edge.beyond("f(-9007199254740992).", 3);
        Edge.beyond("a 9007199254740992.", 2);
        Edge.beyond("a9007199254740992 b.", 18);
        Edge.within("a9007199254740992.", "a9007199254740992");
        Edge.within("'9007199254740992'.", "'9007199254740992'");
        Edge.within("a. %9007199254740992", "a");
    }

    private static void aQuoteThatIsNotClosed() {
        Edge.within("f('a').", "f(a)");
        Edge.beyond("f('a).", 2);
        Edge.beyond("f(a,'", 4);
        Edge.beyond("f(a,'b'').", 4);
        Edge.beyond("a = 'b\nc'.", 4);
        Edge.beyond("'a' = 'b.", 6);
        Edge.beyond("a'", 1);
        Edge.beyond("'" + "a".repeat(4095), 0);
    }

    private static void aByteThatBeginsNoSign() {
        for (int c = 0; c < 256; c++) {
            if (beginsNoSign(c)) {
                Edge.beyond("" + (char) c, 0);
                Edge.beyond("f(a, " + (char) c + ").", 5);
                Edge.beyond("a" + (char) c + ".", 1);
                Edge.beyond("- " + (char) c, 2);
            } else if (c != '\'' && ")]{},|.".indexOf(c) < 0) {
                Edge.beyond("f(" + (char) c, 3);
            }
        }
    }

    private static boolean beginsNoSign(int c) {
        boolean blank = c == 9 || c == 10 || c == 13 || c == 32;
        return !blank && (c < 32 || c > 126 || c == '"' || c == '`');
    }

    private static void theFirstOfSeveral() {
        Edge.beyond("a b 'c", 2);
        Edge.beyond("a b \"", 2);
        Edge.beyond("a b 9007199254740992", 2);
        Edge.beyond("\" 'c", 0);
        Edge.beyond("f('c, \"", 2);
        Edge.beyond("f(9007199254740992, \", 'c", 2);
        Edge.beyond("f(1,2,3,4,5,6,7,8,9) b \"", 18);
        Edge.beyond("f(1,2,3,4,5,6,7,8 \" ,9).", 18);
        Edge.beyond("a \" " + "(".repeat(200), 2);
        Edge.beyond("(".repeat(200) + "\"", 100);
    }

    private static void atTheNinthTerm() {
        Edge.within("f(1,2,3,4,5,6,7,8 ).", "f(1,2,3,4,5,6,7,8)");
        Edge.beyond("f(1,2,3,4,5,6,7,8,9).", 18);
        Edge.beyond("f(1,2,3,4,5,6,7,8, 9).", 19);
        Edge.beyond("f(1,2,3,4,5,6,7,8,%\n(9)).", 20);
        Edge.beyond("f(1,2,3,4,5,6,7,8,g(9),10,11).", 18);
        Edge.beyond("f(1,2,3,4,5,6,7,8,-9).", 18);
        Edge.beyond("f(1,2,3,4,5,6,7,8,).", 18);
        Edge.beyond("f(1,2,3,4,5,6,7,8,", 18);
        Edge.beyond("f(1,2,3,4,5,6,7,8,'", 18);
        Edge.beyond("f(1,2,3,4,5,6,7,8|9).", 17);
        Edge.beyond("g(a,f(1,2,3,4,5,6,7,8,9)).", 22);
        Edge.within("f(1,2,3,4,5,6,7,g(1,2,3,4,5,6,7,8)).", "f(1,2,3,4,5,6,7,g(1,2,3,4,5,6,7,8))");
        Edge.beyond("[f(1),f(1,2,3,4,5,6,7,8,9)].", 24);
        Edge.beyond("+(1,2,3,4,5,6,7,8,9).", 18);
        Edge.beyond("'.'(1,2,3,4,5,6,7,8,9).", 20);
    }

    private static void hundredTermsOpen() {
        for (int open = 98; open <= 100; open++) {
            int within = open - 1;
            Edge.within("(".repeat(within) + "a" + ")".repeat(within) + ".", "a");
        }
        Edge.beyond("(".repeat(100) + "a" + ")".repeat(100) + ".", 100);
        Edge.beyond("(".repeat(101) + "a" + ")".repeat(101) + ".", 100);
        Edge.beyond("(".repeat(4096), 100);
    }

    private static void hundredTermsOpenByEachWay() {
        nested("(", 1, ")", "", "");
        nested("f(", 2, ")", "f(", ")");
        nested("[](", 3, ")", "[](", ")");
        nested("[", 1, "]", "[", "]");
        nested("- ", 2, "", "-(", ")");
        nested("\\+ ", 3, "", "\\+(", ")");
        nested("a,", 2, "", "','(a,", ")");
        nested("a;", 2, "", ";(a,", ")");
        nested("a->", 3, "", "->(a,", ")");
        nested("f(b,", 2, ")", "f(b,", ")");
        nested("[b,", 1, "]", "[b,", "]");
        Edge.within("[b|".repeat(99) + "a" + "]".repeat(99) + ".", "[b" + ",b".repeat(98) + "|a]");
        Edge.beyond("[b|".repeat(100) + "a" + "]".repeat(100) + ".", 99 * 3 + 1);
    }

    /** What opens a term within the term, at which of its bytes the first of them begins, and how all is printed. */
    private static void nested(String open, int firstWithin, String close, String printedOpen, String printedClose) {
        Edge.within(
            open.repeat(99) + "a" + close.repeat(99) + ".",
            printedOpen.repeat(99) + "a" + printedClose.repeat(99));
        int place = 99 * open.length() + firstWithin;
        Edge.beyond(open.repeat(100) + "a" + close.repeat(100) + ".", place);
        Edge.beyond(open.repeat(150) + "a" + close.repeat(150) + ".", place);
    }

    private static void termsThatEndedAreNotOpen() {
        String deep = "(".repeat(97) + "a" + ")".repeat(97);
        Edge.within("f(" + deep + "," + deep + "," + deep + ").", "f(a,a,a)");
        Edge.within("[" + deep + "," + deep + "|" + deep + "].", "[a,a|a]");
        Edge.within(deep + "=" + deep + ".", "=(a,a)");
        Edge.within("a" + "-a".repeat(400) + ".", "-(".repeat(400) + "a" + ",a)".repeat(400));
        Edge.within("[a" + ",a".repeat(400) + "].", "[a" + ",a".repeat(400) + "]");
        Edge.within("(((a)))" + ",((a))".repeat(90) + ".", "','(a,".repeat(90) + "a" + ")".repeat(90));
        Edge.within("(".repeat(98) + "a=b" + ")".repeat(98) + ".", "=(a,b)");
        Edge.beyond("(".repeat(99) + "a=b" + ")".repeat(99) + ".", 101);
        Edge.beyond("f(" + deep + "," + "(".repeat(99) + "a", 2 + deep.length() + 1 + 99);
    }

    private static void theFirstSignOfOneMore() {
        Edge.beyond("(".repeat(100) + "  a", 102);
        Edge.beyond("(".repeat(100) + "%\n[a]", 102);
        Edge.beyond("(".repeat(100) + "f(a)", 100);
        Edge.beyond("(".repeat(100) + "- a", 100);
        Edge.beyond("(".repeat(100) + "-1", 100);
        Edge.beyond("(".repeat(100) + "a+b", 100);
        Edge.beyond("(".repeat(100) + ")", 100);
        Edge.beyond("(".repeat(100) + "'", 100);
        Edge.beyond("(".repeat(100), 100);
        Edge.beyond("(".repeat(99) + "f(a)", 101);
        Edge.beyond("(".repeat(99) + "[a]", 100);
        Edge.beyond("(".repeat(99) + "- a", 101);
        Edge.beyond("(".repeat(99) + "a + b", 103);
        Edge.within("(".repeat(99) + "-1" + ")".repeat(99) + ".", "-1");
        Edge.within("(".repeat(99) + "-" + ")".repeat(99) + ".", "-");
        Edge.within("(".repeat(99) + "[]" + ")".repeat(99) + ".", "[]");
    }

    private static void thousandSymbols() {
        Edge.within("[a" + ",a".repeat(498) + "].", "[a" + ",a".repeat(498) + "]");
        Edge.within("[- a" + ",a".repeat(498) + "].", "[-(a)" + ",a".repeat(498) + "]");
        Edge.beyond("[- - a" + ",a".repeat(498) + "].", 0);
        Edge.beyond("[a" + ",a".repeat(499) + "].", 0);
        Checks.tells("[a" + ",a".repeat(498) + "].", 999, 0, 499);
        Checks.tells("[- a" + ",a".repeat(498) + "].", 1000, 0, 499);
    }

    private static void thousandSymbolsOfEachKind() {
        symbolsWith("b", "b", 1);
        symbolsWith("''", "''", 1);
        symbolsWith("X", "_0", 1);
        symbolsWith("_", "_0", 1);
        symbolsWith("7", "7", 1);
        symbolsWith("-7", "-7", 1);
        symbolsWith("[]", "[]", 1);
        symbolsWith("(((b)))", "b", 1);
        symbolsWith("- 7", "-(7)", 2);
        symbolsWith("g(b)", "g(b)", 2);
        symbolsWith("X+X", "+(_0,_0)", 3);
        symbolsWith("(b,b)", "','(b,b)", 3);
        symbolsWith("[b]", "[b]", 3);
        symbolsWith("[b|c]", "[b|c]", 3);
        symbolsWith("[b|[]]", "[b]", 3);
        symbolsWith("[b|[c]]", "[b,c]", 5);
        symbolsWith("'.'(b,[])", "[b]", 3);
    }

    private static void symbolsWith(String text, String printed, int symbols) {
        int rest = 999 - symbols;
        Edge.within("f(" + text + "," + listOf(rest, "- a") + ").", "f(" + printed + "," + listOf(rest, "-(a)") + ")");
        Edge.within("f(" + listOf(rest, "- a") + "," + text + ").", "f(" + listOf(rest, "-(a)") + "," + printed + ")");
        Edge.beyond(" f(" + text + "," + listOf(rest + 1, "- a") + ").", 1);
        Edge.beyond(" f(" + listOf(rest + 1, "- a") + "," + text + ").", 1);
    }

    /** A list of so many symbols: each item has two, the end one; if one is missing, the first has one more. */
    private static String listOf(int symbols, String longer) {
        int items = (symbols - 1) / 2;
        return "[" + (symbols % 2 == 0 ? longer : "a") + ",a".repeat(items - 1) + "]";
    }

    private static void symbolsAtTheFirstSign() {
        String many = "[a" + ",a".repeat(499) + "]";
        Edge.beyond(many + ".", 0);
        Edge.beyond("  " + many + ".", 2);
        Edge.beyond("%x\n\t" + many + ".", 4);
        Edge.beyond(" ((" + many + ")).", 1);
        Edge.beyond("  f(" + many + ").", 2);
        Edge.beyond(" - " + many + ".", 1);
        Edge.beyond("  b = " + many + ".", 2);
        Edge.beyond(" X+" + many + ".", 1);
        Edge.beyond(" a" + "+a".repeat(500) + ".", 1);
        Edge.within(" a" + "+a".repeat(499) + ".", "+(".repeat(499) + "a" + ",a)".repeat(499));
        Edge.beyond("[_" + ",_".repeat(2045) + "].", 0);
        Edge.beyond("X" + "+X".repeat(2047) + ".", 0);
    }

    private static void symbolsIfNothingElseIsBroken() {
        String many = " [a" + ",a".repeat(499) + "]";
        Edge.beyond(many + ".", 1);
        Edge.beyond(many, many.length());
        Edge.beyond(many + " b.", many.length() + 1);
        Edge.beyond(many + ". b", many.length() + 2);
        Edge.beyond(many + ".'", many.length());
        Edge.beyond(many + ". \"", many.length() + 2);
        Edge.beyond(many + "=9007199254740992.", many.length() + 1);
        Edge.beyond(many + "=a=b.", many.length() + 2);
        Edge.beyond(many + "=" + "(".repeat(99) + "a", many.length() + 100);
        Edge.beyond(many + "=f(1,2,3,4,5,6,7,8,9).", many.length() + 19);
        Edge.beyond("a b" + many + ".", 2);
    }

    private static void symbolsBeforeBytesOfTheResult() {
        // With one symbol too many it is broken, before it is too long.
        Edge.beyond("bbbbb" + "+bbbbb".repeat(500) + ".", 0);
        Edge.tooLong("bbbbb" + "+bbbbb".repeat(499) + ".");
    }

    private static void behindEnd() {
        Edge.within("a. ", "a");
        Edge.within("a. %b", "a");
        Edge.beyond("a. b", 3);
        Edge.beyond("a. b.", 3);
        Edge.beyond("a. .", 3);
        Edge.beyond("a. (", 3);
        Edge.beyond("a. X", 3);
        Edge.beyond("a. 1", 3);
        Edge.beyond("a. ,", 3);
        Edge.beyond("a. '", 3);
        Edge.beyond("a. 'b'", 3);
        Edge.beyond("a. \u0000", 3);
        Edge.beyond("a. 9007199254740992", 3);
        Edge.beyond("a.%\n\n b", 6);
    }
}
