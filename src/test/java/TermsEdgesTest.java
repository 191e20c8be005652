/** The document's part "Terms": what a term, the tape and a sign may be, just within and just beyond. */
public final class TermsEdgesTest {
    private static final String BLANKS = "\t\n\r ";

    public static void main(String[] args) {
        integersAtMost();
        integersBelowZeroAtMost();
        integersThatWouldWrapAround();
        compoundsWithOneToEightTerms();
        theTapeHas4096Bytes();
        theResultHas4096Bytes();
        blanks();
        commentsUpToLineFeed();
        commentsUpToTheEnd();
        quotedNamesOfNoCharacter();
        quotedNamesOfEachCharacter();
        quotesWithinQuotes();
        anotherByteInQuotes();
        endIsFollowedByBlankCommentOrEnd();
        endStandsAlone();
        emptyListWithNothingBetween();
        emptyListWithSomethingBetween();
        parenthesisRightBehindAName();
        Checks.finish();
    }

    private static void integersAtMost() {
        Edge.within("0.", "0");
        Edge.within("9007199254740990.", "9007199254740990");
        Edge.within("9007199254740991.", "9007199254740991");
        Edge.within("f(a,[9007199254740991]).", "f(a,[9007199254740991])");
        Edge.within("00009007199254740991.", "9007199254740991");
        Edge.within("0".repeat(4000) + "9007199254740991.", "9007199254740991");
        Edge.within("0".repeat(4095) + ".", "0");
        Edge.beyond("9007199254740992.", 0);
        Edge.beyond("9007199254740993.", 0);
        Edge.beyond("9007199254741000.", 0);
        Edge.beyond("10000000000000000.", 0);
        Edge.beyond("90071992547409910.", 0);
        Edge.beyond("00009007199254740992.", 0);
        Edge.beyond("f(a,[ 9007199254740992]).", 6);
    }

    private static void integersBelowZeroAtMost() {
        Edge.within("-9007199254740991.", "-9007199254740991");
        Edge.within("-0009007199254740991.", "-9007199254740991");
        Edge.within("- 9007199254740991.", "-(9007199254740991)");
        Edge.within("-1.", "-1");
        Edge.within("-0.", "0");
        Edge.within("-000.", "0");
        Edge.beyond("-9007199254740992.", 1);
        Edge.beyond("- 9007199254740992.", 2);
        Edge.beyond("a -9007199254740992.", 3);
    }

    private static void integersThatWouldWrapAround() {
        Edge.within("2147483647.", "2147483647");
        Edge.within("2147483648.", "2147483648");
        Edge.within("-2147483649.", "-2147483649");
        Edge.within("4294967296.", "4294967296");
        Edge.beyond("9223372036854775807.", 0);
        Edge.beyond("9223372036854775808.", 0);
        Edge.beyond("18446744073709551615.", 0);
        Edge.beyond("18446744073709551616.", 0);
        Edge.beyond("18446744073709551617.", 0);
        Edge.beyond("340282366920938463463374607431768211457.", 0);
        Edge.beyond("1" + "0".repeat(4094) + ".", 0);
    }

    private static void compoundsWithOneToEightTerms() {
        Edge.beyond("f().", 2);
        Edge.beyond("f( ).", 3);
        Edge.beyond("[]().", 3);
        Edge.beyond("''().", 3);
        Edge.within("f(a).", "f(a)");
        Edge.within("f(1,2,3,4,5,6,7).", "f(1,2,3,4,5,6,7)");
        Edge.within("f(1,2,3,4,5,6,7,8).", "f(1,2,3,4,5,6,7,8)");
        Edge.within("=(1,2,3,4,5,6,7,8).", "=(1,2,3,4,5,6,7,8)");
        Edge.within("'.'(1,2,3,4,5,6,7,8).", "'.'(1,2,3,4,5,6,7,8)");
        Edge.within("f((1,2,3,4,5,6,7,8,9)).", "f(','(1,','(2,','(3,','(4,','(5,','(6,','(7,','(8,9)))))))))");
        Edge.within("[1,2,3,4,5,6,7,8,9].", "[1,2,3,4,5,6,7,8,9]");
        Edge.beyond("f(1,2,3,4,5,6,7,8,9).", 18);
    }

    private static void theTapeHas4096Bytes() {
        Edge.within("a".repeat(4094) + ".", "a".repeat(4094));
        Edge.within("a".repeat(4095) + ".", "a".repeat(4095));
        Edge.within("a." + " ".repeat(4094), "a");
        Edge.within("%" + " ".repeat(4092) + "\na.", "a");
        Edge.beyond("a".repeat(4096), 4096);
        Edge.beyond(" ".repeat(4096), 4096);
        Edge.beyond(" ".repeat(4095) + "'", 4095);
        Edge.beyond("a." + " ".repeat(4093) + "b", 4095);
        TermReader full = new TermReader();
        Checks.feed(full, "a".repeat(4096));
        Told.NOTHING.withTape(4096).due("a full tape", full);
        Checks.due("feed throws", Checks.thrownByFeed(full), Checks.TOO_LONG);
        Told.NOTHING.withTape(4096).due("a full tape", full);
    }

    // Each +a grows from two bytes to five, a name fills up what is left.
    private static void theResultHas4096Bytes() {
        for (int bytes = 4094; bytes <= 4096; bytes++) {
            String name = "b".repeat(bytes - 5 * 400);
            Edge.within(name + "+a".repeat(400) + ".", "+(".repeat(400) + name + ",a)".repeat(400));
        }
        Edge.tooLong("b".repeat(2097) + "+a".repeat(400) + ".");
        Edge.tooLong("b".repeat(2098) + "+a".repeat(400) + ".");
        Edge.within("'" + "b".repeat(2093) + " '+(" + "a+".repeat(399) + "a).",
            "+('" + "b".repeat(2093) + " '," + "+(".repeat(399) + "a" + ",a)".repeat(399) + ")");
        Edge.tooLong("'" + "b".repeat(2094) + " '+(" + "a+".repeat(399) + "a).");
    }

    private static void blanks() {
        for (int c = 0; c <= 32; c++) {
            String text = "f(" + (char) c + "a).";
            if (BLANKS.indexOf(c) >= 0) {
                Edge.within(text, "f(a)");
            } else {
                Edge.beyond(text, 2);
            }
        }
        Edge.beyond("f(\u007fa).", 2);
        Edge.beyond("f(\u0080a).", 2);
        Edge.beyond("f(\u00a0a).", 2);
    }

    private static void commentsUpToLineFeed() {
        Edge.within("%\na.", "a");
        Edge.within("%%%\n%\n\na.", "a");
        Edge.within("% 'b ( \" \u0000 \t \u007f \u00ff\na.", "a");
        Edge.within("f(%\na%\n,%\nb%\n)%\n.", "f(a,b)");
        Edge.within("'%'%'\n.", "'%'");
        Edge.within("a.%\n%", "a");
        // 13 is a blank, but does not end a comment.
        Edge.beyond("%\ra.", 4);
        Edge.within("%\r\na.", "a");
        Edge.beyond("%a.\nb", 5);
        Edge.beyond("a.%\nb", 4);
        Edge.beyond("a%\nb.", 3);
        Edge.beyond("f%\n(a).", 3);
    }

    private static void commentsUpToTheEnd() {
        Edge.within("a.%", "a");
        Edge.within("a. %b.'(", "a");
        Edge.within("a.%" + "x".repeat(4093), "a");
        Edge.beyond("%", 1);
        Edge.beyond("a%.", 3);
        Edge.beyond("a %. ", 5);
        Edge.beyond("%a.", 3);
    }

    private static void quotedNamesOfNoCharacter() {
        Edge.within("''.", "''");
        Edge.within("''(a).", "''(a)");
        Edge.within("f('','').", "f('','')");
        Edge.within("[''|''].", "[''|'']");
        Edge.beyond("'", 0);
        Edge.beyond("'.", 0);
    }

    private static void quotedNamesOfEachCharacter() {
        for (int c = 0; c < 256; c++) {
            String name = "'B" + (char) c + "'";
            if (c == '\'') {
                Edge.beyond("f(" + name + ").", 2);
            } else if (c >= 32 && c <= 126) {
                Edge.within("f(" + name + ").", "f(" + name + ")");
            } else {
                Edge.beyond("f(" + name + ").", 2);
            }
        }
        Edge.within("'" + "~".repeat(1400) + " '.", "'" + "~".repeat(1400) + " '");
    }

    private static void quotesWithinQuotes() {
        Edge.within("''''.", "''''");
        Edge.within("''''''.", "''''''");
        Edge.within("'a''b'.", "'a''b'");
        Edge.within("'''a'''.", "'''a'''");
        Edge.within("f('''',a).", "f('''',a)");
        Edge.beyond("'''.", 0);
        Edge.beyond("'a''.", 0);
        Edge.beyond("'a'''b'.", 5);
        Edge.beyond("'a' 'b'.", 4);
    }

    private static void anotherByteInQuotes() {
        int[] others = {0, 9, 10, 13, 31, 127, 128, 159, 160, 255};
        for (int other : others) {
            Edge.beyond("'" + (char) other + "'.", 0);
            Edge.beyond("'a" + (char) other + "'.", 0);
            Edge.beyond(" f(' " + (char) other, 3);
            // What was closed before is another name.
            Edge.beyond("'a''" + (char) other + "'.", 0);
        }
        Edge.beyond("'a'\u0000.", 3);
        Edge.within("'a'\t.", "a");
    }

    private static void endIsFollowedByBlankCommentOrEnd() {
        Edge.within("a.", "a");
        Edge.within("a.%", "a");
        for (int i = 0; i < BLANKS.length(); i++) {
            Edge.within("a." + BLANKS.charAt(i), "a");
            Edge.within("a ." + BLANKS.charAt(i) + "%b", "a");
        }
        String others = "\u0000\u000b\f\u001fb'(\"[{1_B!,;|)]}\u007f\u00a0\u00ff";
        for (int i = 0; i < others.length(); i++) {
            Edge.beyond("a." + others.charAt(i), 1);
            Edge.beyond("a ." + others.charAt(i) + " .", 2);
        }
    }

    private static void endStandsAlone() {
        String symbols = "+-*/\\^<>=~:.?@#&$";
        for (int i = 0; i < symbols.length(); i++) {
            String name = symbols.charAt(i) + ".";
            Edge.beyond("f(" + name, 4);
            Edge.within("f(" + name + ").", "f(" + name + ")");
            Edge.within(name + " .", name);
            Edge.beyond(name, 2);
            Edge.beyond("a." + symbols.charAt(i) + " .", 1);
        }
        Edge.within(".. .", "..");
        Edge.within("... .", "...");
        Edge.beyond("a..", 1);
        Edge.beyond("a. .", 3);
        Edge.within("X.", "_0");
        Edge.within("1.", "1");
        Edge.within("''.", "''");
        Edge.within("!.", "!");
        Edge.within(";.", ";");
        Edge.within("(a).", "a");
        Edge.within("[].", "[]");
        // In quotes it is a name, whatever follows.
        Edge.within("'.'.", "'.'");
        Edge.within("'.' .", "'.'");
        Edge.within("f('.').", "f('.')");
        Edge.beyond("a '.' ", 2);
    }

    private static void emptyListWithNothingBetween() {
        Edge.within("[].", "[]");
        Edge.within("[](a).", "[](a)");
        Edge.within("[[]].", "[[]]");
        Edge.within("[[],[]|[]].", "[[],[]]");
        Edge.within("[] = '[]'.", "=([],[])");
        Edge.within("f([],[]).", "f([],[])");
        Edge.within("- [].", "-([])");
        Edge.beyond("[] [].", 3);
        Edge.beyond("[][].", 2);
        Edge.beyond("a[].", 1);
        Edge.beyond("[]].", 2);
        Edge.beyond("[](", 3);
        Edge.beyond("[] (a).", 3);
    }

    private static void emptyListWithSomethingBetween() {
        for (int i = 0; i < BLANKS.length(); i++) {
            Edge.beyond("[" + BLANKS.charAt(i) + "].", 2);
            Edge.beyond("f([" + BLANKS.charAt(i) + "]).", 4);
        }
        Edge.beyond("[%\n].", 3);
        Edge.beyond("[  ](a).", 3);
        Edge.beyond("[a|[ ]].", 5);
        Edge.within("[ []].", "[[]]");
        Edge.within("[ a ].", "[a]");
    }

    private static void parenthesisRightBehindAName() {
        Edge.within("f(a).", "f(a)");
        Edge.within("'f'(a).", "f(a)");
        Edge.within("+(a).", "+(a)");
        Edge.within("!(a).", "!(a)");
        Edge.within(";(a).", ";(a)");
        Edge.within("[](a).", "[](a)");
        Edge.within("f( a ).", "f(a)");
        Edge.within("-(1).", "-(1)");
        for (int i = 0; i < BLANKS.length(); i++) {
            Edge.beyond("f" + BLANKS.charAt(i) + "(a).", 2);
            Edge.beyond("!" + BLANKS.charAt(i) + "(a).", 2);
        }
        Edge.beyond("f%\n(a).", 3);
        Edge.beyond("X(a).", 1);
        Edge.beyond("_(a).", 1);
        Edge.beyond("1(a).", 1);
        Edge.beyond("-1(a).", 2);
        Edge.beyond("f(a)(b).", 4);
        Edge.beyond("(f)(a).", 3);
        Edge.beyond("[f](a).", 3);
    }
}
