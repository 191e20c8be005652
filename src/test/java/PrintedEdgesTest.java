/** The document's PRINTED: which names stand in quotes, how lists end, how variables are numbered. */
public final class PrintedEdgesTest {
    private static final String SYMBOLS = "+-*/\\^<>=~:.?@#&$";

    public static void main(String[] args) {
        namesOfOneCharacter();
        wordsAsTheyAre();
        wordsInQuotes();
        symbolsAsTheyAre();
        theDotIsInQuotes();
        soloNames();
        emptyListAndWhatLooksLikeIt();
        namesOfOperators();
        quotesAreDoubled();
        namesOfCompounds();
        listsThatEndWithTheEmptyList();
        listsThatEndWithSomethingElse();
        listsOfTheDot();
        integers();
        variablesInTheOrderInWhichTheyCome();
        noBlanks();
        Checks.finish();
    }

    private static void prints(String name, boolean plain) {
        String quoted = "'" + name.replace("'", "''") + "'";
        String printed = plain ? name : quoted;
        Edge.within(quoted + ".", printed);
        Edge.within(quoted + "(a,b,c).", printed + "(a,b,c)");
        Edge.within("[" + quoted + "|" + quoted + "].", "[" + printed + (name.equals("[]") ? "" : "|" + printed) + "]");
    }

    private static void namesOfOneCharacter() {
        for (char c = 32; c <= 126; c++) {
            boolean small = c >= 'a' && c <= 'z';
            boolean symbol = c != '.' && SYMBOLS.indexOf(c) >= 0;
            prints("" + c, small || symbol || c == '!' || c == ';');
        }
    }

    private static void wordsAsTheyAre() {
        for (char c = 32; c <= 126; c++) {
            prints("a" + c, Character.isLetterOrDigit(c) || c == '_');
            prints("zA" + c + "9", Character.isLetterOrDigit(c) || c == '_');
        }
        prints("a".repeat(300), true);
        prints("a".repeat(300) + " ", false);
    }

    private static void wordsInQuotes() {
        String[] names = {"", "A", "Ab", "_", "_a", "1", "1a", "12", "-1", "-a", "a b", " a", "a ", "a-", "f(a)", "a.", "A.b"};
        for (String name : names) {
            prints(name, false);
        }
    }

    private static void symbolsAsTheyAre() {
        prints(SYMBOLS, true);
        for (char c = 32; c <= 126; c++) {
            prints("+" + c, SYMBOLS.indexOf(c) >= 0);
            prints("." + c, SYMBOLS.indexOf(c) >= 0);
            prints(c + ".", SYMBOLS.indexOf(c) >= 0);
        }
    }

    private static void theDotIsInQuotes() {
        prints(".", false);
        prints("..", true);
        prints("...", true);
        Edge.within("'.'.", "'.'");
        Edge.within(".(a).", "'.'(a)");
        Edge.within("f('.').", "f('.')");
        Edge.within("- '.'.", "-('.')");
    }

    private static void soloNames() {
        for (String name : new String[] {"!", ";"}) {
            prints(name, true);
            prints(name + name, false);
            prints(name + "a", false);
            prints("a" + name, false);
            prints(name + "+", false);
            prints(" " + name, false);
        }
        for (String name : new String[] {"(", ")", "[", "]", "{", "}", ",", "|", "{}", "()", ",,", "%", "\"", "`", "'", "''"}) {
            prints(name, false);
        }
    }

    private static void emptyListAndWhatLooksLikeIt() {
        prints("[]", true);
        for (String name : new String[] {"[", "]", "[ ]", "[]]", "[[]", "[[]]", "][", "[[", "]]", "[a]", "[]a", "a[]", " []", "[] ", "[+", "[|"}) {
            prints(name, false);
        }
    }

    private static void namesOfOperators() {
        String[] operators = {
            ":-", ";", "->", "\\+", "=", "\\=", "==", "\\==", "is", "<", ">", "=<", ">=", "=:=", "=\\=",
            "+", "-", "*", "//", "mod", "rem"};
        for (String name : operators) {
            prints(name, true);
            Edge.within("'" + name + "'(a).", name + "(a)");
            Edge.within("'" + name + "'(a,b).", name + "(a,b)");
        }
        Edge.within("a,b.", "','(a,b)");
        Edge.within("','(a).", "','(a)");
    }

    private static void quotesAreDoubled() {
        prints("'", false);
        prints("''", false);
        prints("a'", false);
        prints("'a", false);
        prints("a'b", false);
        prints("+'", false);
    }

    private static void namesOfCompounds() {
        Edge.within("'F'(a).", "'F'(a)");
        Edge.within("''(a).", "''(a)");
        Edge.within("'f'(a).", "f(a)");
        Edge.within("'a b'(- 1).", "'a b'(-(1))");
        Edge.within("[](a,b).", "[](a,b)");
    }

    private static void listsThatEndWithTheEmptyList() {
        Edge.within("[a].", "[a]");
        Edge.within("[a|[]].", "[a]");
        Edge.within("[a|'[]'].", "[a]");
        Edge.within("[a|([])].", "[a]");
        Edge.within("[a,b|[]].", "[a,b]");
        Edge.within("[a|[b]].", "[a,b]");
        Edge.within("[a|[b|[c|[]]]].", "[a,b,c]");
        Edge.within("[[]].", "[[]]");
        Edge.within("[[]|[]].", "[[]]");
        Edge.within("[[],[]].", "[[],[]]");
    }

    private static void listsThatEndWithSomethingElse() {
        Edge.within("[a|b].", "[a|b]");
        Edge.within("[a|X].", "[a|_0]");
        Edge.within("[a|0].", "[a|0]");
        Edge.within("[a|-1].", "[a|-1]");
        Edge.within("[a|f(b)].", "[a|f(b)]");
        Edge.within("[a|[](b)].", "[a|[](b)]");
        Edge.within("[a|'[ ]'].", "[a|'[ ]']");
        Edge.within("[a|[b|c]].", "[a,b|c]");
        Edge.within("[a,b|- c].", "[a,b|-(c)]");
        Edge.within("[[a|b],[c|d]|[e|f]].", "[[a|b],[c|d],e|f]");
        Edge.within("[a|'.'].", "[a|'.']");
        Edge.within("[a|'.'(b)].", "[a|'.'(b)]");
        Edge.within("[a|'.'(b,c,d)].", "[a|'.'(b,c,d)]");
    }

    private static void listsOfTheDot() {
        Edge.within("'.'(a,[]).", "[a]");
        Edge.within("'.'(a,b).", "[a|b]");
        Edge.within(".(a,.(b,[])).", "[a,b]");
        Edge.within("[a|'.'(b,c)].", "[a,b|c]");
        Edge.within("'.'('.'(a,[]),[]).", "[[a]]");
        Edge.within("'.'((a,b)).", "'.'(','(a,b))");
    }

    private static void integers() {
        Edge.within("007.", "7");
        Edge.within("-007.", "-7");
        Edge.within("00.", "0");
        Edge.within("10.", "10");
        Edge.within("f(0,-0,100).", "f(0,0,100)");
        Edge.within("-(7).", "-(7)");
        Edge.within("-(-7).", "-(-7)");
    }

    private static void variablesInTheOrderInWhichTheyCome() {
        Edge.within("f(Z,Y,X).", "f(_0,_1,_2)");
        Edge.within("_1+_0.", "+(_0,_1)");
        Edge.within("f(Z,Y)=g(Y,Z,X).", "=(f(_0,_1),g(_1,_0,_2))");
        Edge.within("[B,A|B].", "[_0,_1|_0]");
        StringBuilder text = new StringBuilder("[V0");
        StringBuilder printed = new StringBuilder("[_0");
        for (int i = 1; i < 499; i++) {
            text.append(",V").append(i);
            printed.append(",_").append(i);
        }
        Edge.within(text + "].", printed + "]");
        Edge.within("[_" + ",_".repeat(498) + "].", printed + "]");
    }

    private static void noBlanks() {
        Edge.within(" f ( a ) .".replace(" (", "("), "f(a)");
        Edge.within("[ a , b | c ] .", "[a,b|c]");
        Edge.within("a  mod\tb .", "mod(a,b)");
        Edge.within("a , b .", "','(a,b)");
        Edge.within("\\+ - a .", "\\+(-(a))");
    }
}
