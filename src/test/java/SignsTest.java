/** Promise 4: the signs, and where they are broken. */
public final class SignsTest {
    public static void main(String[] args) {
        blanksAndComments();
        integers();
        variables();
        names();
        quotedNames();
        symbolNamesAndEnd();
        emptyList();
        bytesThatBeginNoSign();
        Checks.finish();
    }

    private static void blanksAndComments() {
        Checks.prints(" \t\r\n a \t.", "a");
        Checks.prints("% all of this ' ( \u00ff is a comment\na.", "a");
        Checks.prints("f(%x\n%y\n a%z\n,b)%.\n.", "f(a,b)");
        Checks.prints("a.% to the end", "a");
        Checks.prints("a. \n % b.", "a");
        Checks.breaks("%a.\rb.", 6);
        Checks.breaks("a\u000b.", 1);
        Checks.breaks("a\f.", 1);
        Checks.breaks("", 0);
        Checks.breaks("   ", 3);
        Checks.breaks("% a.", 4);
    }

    private static void integers() {
        Checks.prints("0.", "0");
        Checks.prints("007.", "7");
        Checks.prints("000.", "0");
        Checks.prints("9007199254740991.", "9007199254740991");
        Checks.prints("-9007199254740991.", "-9007199254740991");
        Checks.prints("0000000000000000000000009007199254740991.", "9007199254740991");
        Checks.breaks("9007199254740992.", 0);
        Checks.breaks("-9007199254740992.", 1);
        Checks.breaks("f(a, 18446744073709551617).", 5);
        Checks.breaks("- " + "9".repeat(400) + ".", 2);
        Checks.breaks("1a.", 1);
        Checks.breaks("1 2.", 2);
        Checks.breaks("1'a'.", 1);
    }

    private static void variables() {
        Checks.prints("X.", "_0");
        Checks.prints("[A,Z,AzZ_09,AzZ_08].", "[_0,_1,_2,_3]");
        Checks.prints("_.", "_0");
        Checks.prints("[B,A,B,_,_x,_,_x,__,Ab_9].", "[_0,_1,_0,_2,_3,_4,_3,_5,_6]");
        Checks.breaks("X(a).", 1);
        Checks.breaks("X Y.", 2);
    }

    private static void names() {
        Checks.prints("aB_9z.", "aB_9z");
        Checks.prints("zAZ_09az.", "zAZ_09az");
        Checks.prints("'zAZ_09az'.", "zAZ_09az");
        Checks.prints("!.", "!");
        Checks.prints(";.", ";");
        Checks.prints("f(!,;).", "f(!,;)");
        Checks.prints("!(a).", "!(a)");
        Checks.prints(";(a).", ";(a)");
        Checks.breaks("!!.", 1);
        Checks.breaks("a!.", 1);
    }

    private static void quotedNames() {
        Checks.prints("'abc'.", "abc");
        Checks.prints("'Abc'.", "'Abc'");
        Checks.prints("''.", "''");
        Checks.prints("''''.", "''''");
        Checks.prints("'it''s'.", "'it''s'");
        Checks.prints("'a'(b).", "a(b)");
        Checks.prints("''(b).", "''(b)");
        Checks.prints("' ~'.", "' ~'");
        Checks.prints("'% no comment'.", "'% no comment'");
        Checks.breaks("'abc.", 0);
        Checks.breaks("f('abc''.", 2);
        Checks.breaks("'''.", 0);
        Checks.breaks("a '", 2);
        Checks.breaks(" 'a\nb'.", 1);
        Checks.breaks(" 'a\tb'.", 1);
        Checks.breaks(" 'a\u007fb'.", 1);
        Checks.breaks(" 'a\u00e9b'.", 1);
        Checks.breaks(" 'a\u0000b'.", 1);
        Checks.breaks("'a' 'b'.", 4);
    }

    private static void symbolNamesAndEnd() {
        Checks.prints("+-*/\\^<>=~:.?@#&$ .", "+-*/\\^<>=~:.?@#&$");
        Checks.prints(".. .", "..");
        Checks.prints(".(a).", "'.'(a)");
        Checks.prints("'.'.", "'.'");
        Checks.prints("a.%", "a");
        Checks.prints("a.\t", "a");
        Checks.prints("a.\r", "a");
        Checks.breaks("a..", 1);
        Checks.breaks("a=.", 1);
        Checks.breaks("a.b.", 1);
        Checks.breaks("a.(b).", 1);
        Checks.breaks("a.\u0000", 1);
        Checks.breaks("a '.' ", 2);
        Checks.breaks(".", 0);
        Checks.breaks(" . a.", 1);
        Checks.breaks("a--b.", 1);
    }

    private static void emptyList() {
        Checks.prints("[].", "[]");
        Checks.prints("'[]'.", "[]");
        Checks.prints("[](a).", "[](a)");
        Checks.prints("[[],[]].", "[[],[]]");
        Checks.breaks("[ ].", 2);
        Checks.breaks("[%\n].", 3);
        Checks.breaks("[] [].", 3);
        Checks.breaks("[]].", 2);
    }

    private static void bytesThatBeginNoSign() {
        String cannotStand = ")]{},|.'\"`";
        for (int c = 0; c < 256; c++) {
            boolean blank = c == 9 || c == 10 || c == 13 || c == 32;
            boolean stands = blank || c > 32 && c < 127 && cannotStand.indexOf(c) < 0;
            Checks.breaks("f(" + (char) c, stands ? 3 : 2);
        }
        Checks.breaks("f(\"a\").", 2);
        Checks.breaks("`a`.", 0);
    }
}
