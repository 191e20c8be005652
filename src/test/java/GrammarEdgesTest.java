/** The document's part "Terms", the grammar: each rank with what may stand on either side, and the prefixes. */
public final class GrammarEdgesTest {
    private static final String[] INFIX = {
        ":-", ";", "->", ",", "=", "\\=", "==", "\\==", "is", "<", ">", "=<", ">=", "=:=", "=\\=",
        "+", "-", "*", "//", "mod", "rem"};
    private static final int[] RANK = {
        1200, 1100, 1050, 1000, 700, 700, 700, 700, 700, 700, 700, 700, 700, 700, 700, 500, 500, 400, 400, 400, 400};
    private static final String[] PREFIX = {"\\+", "-"};
    private static final int[] PREFIX_RANK = {900, 200};

    public static void main(String[] args) {
        leftOfEachOperator();
        rightOfEachOperator();
        prefixLeftOfEachOperator();
        prefixRightOfEachOperator();
        prefixWithinPrefix();
        wholeTerms();
        termsOfCompoundsAndLists();
        termsInParentheses();
        asManyOperatorsAsThereAre();
        minusRightBeforeAnInteger();
        operatorsThatAreAtoms();
        operatorsAsAtomsHaveRankZero();
        prefixesBehindWhichATermCanBegin();
        prefixesBehindWhichNoTermCanBegin();
        prefixesBeforeOperatorsOfTwoSides();
        namesInQuotesAreAsWithout();
        aCommaInQuotesIsNoOperator();
        bracesStandNowhere();
        listsOfTerms();
        theSameVariable();
        thePlainLineIsAlwaysAnother();
        Checks.finish();
    }

    private static int greatestLeft(int i) {
        return RANK[i] <= 500 ? RANK[i] : RANK[i] - 1;
    }

    private static int greatestRight(int i) {
        return RANK[i] >= 1000 && RANK[i] < 1200 ? RANK[i] : RANK[i] - 1;
    }

    private static String name(String operator) {
        return operator.equals(",") ? "','" : operator;
    }

    private static void leftOfEachOperator() {
        for (int op = 0; op < INFIX.length; op++) {
            for (int left = 0; left < INFIX.length; left++) {
                String start = "a " + INFIX[left] + " b ";
                String text = start + INFIX[op] + " c.";
                if (RANK[left] <= greatestLeft(op) && RANK[op] > greatestRight(left)) {
                    Edge.within(text, name(INFIX[op]) + "(" + name(INFIX[left]) + "(a,b),c)");
                } else if (RANK[op] > greatestRight(left)) {
                    Edge.beyond(text, start.length());
                }
                Edge.within("(" + start + ") " + INFIX[op] + " c.", name(INFIX[op]) + "(" + name(INFIX[left]) + "(a,b),c)");
            }
        }
    }

    private static void rightOfEachOperator() {
        for (int op = 0; op < INFIX.length; op++) {
            for (int right = 0; right < INFIX.length; right++) {
                String end = "b " + INFIX[right] + " c";
                String text = "a " + INFIX[op] + " " + end + ".";
                String printed = name(INFIX[op]) + "(a," + name(INFIX[right]) + "(b,c))";
                if (RANK[right] <= greatestRight(op)) {
                    Edge.within(text, printed);
                } else if (RANK[op] > greatestLeft(right)) {
                    Edge.beyond(text, text.length() - 3 - INFIX[right].length());
                }
                Edge.within("a " + INFIX[op] + " (" + end + ").", printed);
            }
        }
    }

    private static void prefixLeftOfEachOperator() {
        for (int p = 0; p < PREFIX.length; p++) {
            for (int op = 0; op < INFIX.length; op++) {
                String text = PREFIX[p] + " a " + INFIX[op] + " b.";
                if (RANK[op] <= PREFIX_RANK[p]) {
                    Edge.within(text, PREFIX[p] + "(" + name(INFIX[op]) + "(a,b))");
                } else {
                    Edge.within(text, name(INFIX[op]) + "(" + PREFIX[p] + "(a),b)");
                }
                Edge.within(
                    "(" + PREFIX[p] + " a) " + INFIX[op] + " b.", name(INFIX[op]) + "(" + PREFIX[p] + "(a),b)");
            }
        }
    }

    private static void prefixRightOfEachOperator() {
        for (int p = 0; p < PREFIX.length; p++) {
            for (int op = 0; op < INFIX.length; op++) {
                String start = "a " + INFIX[op] + " " + PREFIX[p] + " ";
                String printed = name(INFIX[op]) + "(a," + PREFIX[p] + "(b))";
                if (PREFIX_RANK[p] <= greatestRight(op)) {
                    Edge.within(start + "b.", printed);
                } else {
                    // It is an atom there, behind which nothing but an operator can stand.
                    Edge.beyond(start + "b.", start.length());
                    Edge.beyond(start + "(b).", start.length());
                }
                Edge.within(start + ".", name(INFIX[op]) + "(a," + PREFIX[p] + ")");
                Edge.within("a " + INFIX[op] + " (" + PREFIX[p] + " b).", printed);
                Edge.within("a " + INFIX[op] + " " + PREFIX[p] + "(b).", printed);
            }
        }
    }

    private static void prefixWithinPrefix() {
        Edge.within("- - a.", "-(-(a))");
        Edge.within("\\+ \\+ a.", "\\+(\\+(a))");
        Edge.within("\\+ - a.", "\\+(-(a))");
        Edge.beyond("- \\+ a.", 5);
        Edge.within("- (\\+ a).", "-(\\+(a))");
        Edge.within("- \\+ .", "-(\\+)");
        Edge.within("- \\+(a).", "-(\\+(a))");
        Edge.within("- \\+ = a.", "=(-(\\+),a)");
    }

    private static void wholeTerms() {
        for (int op = 0; op < INFIX.length; op++) {
            Edge.within("a " + INFIX[op] + " b.", name(INFIX[op]) + "(a,b)");
        }
        Edge.within("a:-b;c->d,\\+e=f+g*h.", ":-(a,;(b,->(c,','(d,\\+(=(e,+(f,*(g,h))))))))");
        Edge.within("a*b+c=d,e->f;g:-h.", ":-(;(->(','(=(+(*(a,b),c),d),e),f),g),h)");
        Edge.within("- a*b.", "*(-(a),b)");
        Edge.within("a* - b.", "*(a,-(b))");
        Edge.beyond("a:-b:-c.", 4);
        Edge.beyond("a:-b;c:-d.", 6);
        Edge.beyond("a=b,c=d=e.", 7);
    }

    private static void termsOfCompoundsAndLists() {
        for (int op = 0; op < INFIX.length; op++) {
            String text = "a " + INFIX[op] + " b";
            String printed = name(INFIX[op]) + "(a,b)";
            if (RANK[op] <= 999) {
                Edge.within("f(" + text + ",c).", "f(" + printed + ",c)");
                Edge.within("[c," + text + "].", "[c," + printed + "]");
                Edge.within("[c|" + text + "].", "[c|" + printed + "]");
            } else if (RANK[op] > 1000) {
                Edge.beyond("f(" + text + ",c).", 4);
                Edge.beyond("[c," + text + "].", 5);
                Edge.beyond("[c|" + text + "].", 5);
            }
            Edge.within("f((" + text + "),c).", "f(" + printed + ",c)");
            Edge.within("[c,(" + text + ")].", "[c," + printed + "]");
            Edge.within("[c|(" + text + ")].", "[c|" + printed + "]");
        }
        Edge.within("f(\\+ a,\\+ \\+ b).", "f(\\+(a),\\+(\\+(b)))");
        Edge.within("[\\+ a|\\+ b].", "[\\+(a)|\\+(b)]");
        Edge.within("f(a,b).", "f(a,b)");
        Edge.beyond("[c|a,b].", 4);
    }

    private static void termsInParentheses() {
        for (int op = 0; op < INFIX.length; op++) {
            String text = "a " + INFIX[op] + " b";
            String printed = name(INFIX[op]) + "(a,b)";
            Edge.within("(" + text + ").", printed);
            Edge.within("- (" + text + ").", "-(" + printed + ")");
            Edge.within("((" + text + ")) * c.", "*(" + printed + ",c)");
        }
        Edge.beyond("().", 1);
        Edge.beyond("(a", 2);
        Edge.beyond("(a.", 2);
        Edge.beyond("(a b).", 3);
        Edge.beyond("(a].", 2);
        Edge.beyond("(a)).", 3);
        Edge.beyond("(a|b).", 2);
        Edge.beyond("(a)(b).", 3);
        Edge.beyond("(a:-b:-c).", 5);
    }

    private static void asManyOperatorsAsThereAre() {
        Edge.within("a-b-c-d-e.", "-(-(-(-(a,b),c),d),e)");
        Edge.within("a*b//c mod d rem e.", "rem(mod(//(*(a,b),c),d),e)");
        Edge.within("a;b;c;d.", ";(a,;(b,;(c,d)))");
        Edge.within("a->b->c.", "->(a,->(b,c))");
        Edge.within("a,b,c.", "','(a,','(b,c))");
        Edge.within("a+b*c+d*e.", "+(+(a,*(b,c)),*(d,e))");
        Edge.within("a" + "+a".repeat(499) + ".", "+(".repeat(499) + "a" + ",a)".repeat(499));
    }

    private static void minusRightBeforeAnInteger() {
        Edge.within("-1.", "-1");
        Edge.within("- 1.", "-(1)");
        Edge.within("-%\n1.", "-(1)");
        Edge.within("-(1).", "-(1)");
        Edge.within("-X.", "-(_0)");
        Edge.within("a-1.", "-(a,1)");
        Edge.within("a -1.", "-(a,1)");
        Edge.within("a- -1.", "-(a,-1)");
        Edge.within("- -1.", "-(-1)");
        Edge.within("-1-1.", "-(-1,1)");
        Edge.within("- 1-1.", "-(-(1),1)");
        Edge.within("[-1|-2].", "[-1|-2]");
        Edge.within("f(-1).", "f(-1)");
        Edge.within("\\+ -1.", "\\+(-1)");
        Edge.beyond("--1.", 2);
        Edge.beyond("+1.", 1);
        Edge.beyond("-1 2.", 3);
        Edge.beyond("-1a.", 2);
    }

    private static void operatorsThatAreAtoms() {
        for (int op = 0; op < INFIX.length; op++) {
            String name = INFIX[op];
            if (!name.equals(",")) {
                Edge.within(name + " .", name);
                Edge.within("(" + name + ").", name);
                Edge.within("f(" + name + ").", "f(" + name + ")");
                Edge.within("[" + name + "|" + name + "].", "[" + name + "|" + name + "]");
                Edge.within("f(a," + name + ",b).", "f(a," + name + ",b)");
                Edge.within(name + "(a).", name + "(a)");
                Edge.within(name + "(a,b,c).", name + "(a,b,c)");
            }
            if (!name.equals("-")) {
                Edge.beyond(name + " a.", name.equals(",") ? 0 : name.length() + 1);
            }
            Edge.beyond("a " + name + " .", name.length() + 3);
            Edge.beyond("f(a " + name + " ).", name.equals(",") ? 6 : RANK[op] > 999 ? 4 : name.length() + 5);
        }
        Edge.beyond("a \\+ b.", 2);
        Edge.beyond("a \\+ .", 2);
        Edge.beyond("a is is is.", 8);
    }

    private static void operatorsAsAtomsHaveRankZero() {
        for (int op = 0; op < INFIX.length; op++) {
            String name = INFIX[op];
            if (!name.equals(",")) {
                // A rank of 400 takes 399 at most on its right: less than any operator's but the prefix -.
                Edge.within("a mod " + name + " .", "mod(a," + name + ")");
                Edge.within(name + " mod " + name + " .", "mod(" + name + "," + name + ")");
                Edge.within(name + " = " + name + " .", "=(" + name + "," + name + ")");
                Edge.within(name + " " + name + " a.", name.equals("-") ? "-(-(a))" : name + "(" + name + ",a)");
            }
        }
        Edge.within("\\+ mod \\+ .", "mod(\\+,\\+)");
        Edge.within("- \\+ mod a.", "mod(-(\\+),a)");
    }

    private static void prefixesBehindWhichATermCanBegin() {
        String[] behind = {"a", "X", "_", "7", "'b c'", "''", "!", "[]", "[a]", "(a)", "f(a)", "(:-)", "- ", "\\+ ", "-(a)", "-7", "~", "','"};
        String[] printed = {"a", "_0", "_0", "7", "'b c'", "''", "!", "[]", "[a]", "a", "f(a)", ":-", "-", "\\+", "-(a)", "-7", "~", "','"};
        for (int i = 0; i < behind.length; i++) {
            Edge.within("\\+ " + behind[i] + " .", "\\+(" + printed[i] + ")");
            Edge.within("- " + behind[i] + " .", "-(" + printed[i] + ")");
            Edge.within("f(- " + behind[i] + " ).", "f(-(" + printed[i] + "))");
        }
        Edge.within("\\+ \\+(a,b).", "\\+(\\+(a,b))");
        Edge.within("- - - .", "-(-(-))");
    }

    private static void prefixesBehindWhichNoTermCanBegin() {
        for (String p : PREFIX) {
            Edge.within(p + " .", p);
            Edge.within(p + " %\n.", p);
            Edge.within("(" + p + " ).", p);
            Edge.within("[" + p + " ].", "[" + p + "]");
            Edge.within("[" + p + " |a].", "[" + p + "|a]");
            Edge.within("[" + p + " ,a].", "[" + p + ",a]");
            Edge.within("f(" + p + " ).", "f(" + p + ")");
            Edge.within("f(" + p + " ,a).", "f(" + p + ",a)");
            Edge.within(p + " ,a.", "','(" + p + ",a)");
            Edge.beyond(p + " }.", p.length() + 1);
            Edge.beyond(p + " {.", p.length() + 1);
            Edge.beyond(p + " )", p.length() + 1);
            Edge.beyond(p + " ]", p.length() + 1);
            Edge.beyond(p + " |", p.length() + 1);
            Edge.beyond(p, p.length());
            Edge.beyond(p + "  ", p.length() + 2);
        }
    }

    private static void prefixesBeforeOperatorsOfTwoSides() {
        for (String p : PREFIX) {
            for (int op = 0; op < INFIX.length; op++) {
                String name = name(INFIX[op]);
                if (!INFIX[op].equals("-")) {
                    Edge.within(p + " " + INFIX[op] + " a.", name + "(" + p + ",a)");
                    Edge.beyond(p + " " + INFIX[op] + " .", p.length() + INFIX[op].length() + 2);
                    // Also with a ( right behind it.
                    Edge.within(p + " " + INFIX[op] + "(a).", name + "(" + p + ",a)");
                    Edge.within(p + " " + INFIX[op] + "(a,b).", name + "(" + p + ",','(a,b))");
                }
            }
        }
        Edge.within("\\+ - a.", "\\+(-(a))");
        Edge.within("\\+ -(a,b).", "\\+(-(a,b))");
        Edge.beyond("f(- :- a).", 4);
        Edge.within("a -(b).", "-(a,b)");
        Edge.within("a -(b,c).", "-(a,','(b,c))");
        Edge.within("a mod(b).", "mod(a,b)");
    }

    private static void namesInQuotesAreAsWithout() {
        for (int op = 0; op < INFIX.length; op++) {
            if (!INFIX[op].equals(",")) {
                String name = INFIX[op];
                Edge.within("a '" + name + "' b.", name + "(a,b)");
                Edge.within("'" + name + "'.", name);
                Edge.within("'" + name + "'(a,b).", name + "(a,b)");
                Edge.beyond("a'" + name + "'.", name.length() + 3);
            }
        }
        Edge.within("'\\+' a.", "\\+(a)");
        Edge.within("'-' a.", "-(a)");
        Edge.within("'-' 1.", "-(1)");
        Edge.within("'-'1.", "-1");
        Edge.within("- '=' a.", "=(-,a)");
        Edge.within("'a'('b').", "a(b)");
        Edge.within("['[]','a'|'[]'].", "[[],a]");
        Edge.within("'.'(a,[]).", "[a]");
        Edge.beyond("a'b'.", 1);
        Edge.beyond("a:-b':-'c.", 4);
    }

    private static void aCommaInQuotesIsNoOperator() {
        Edge.within("','.", "','");
        Edge.within("','(a,b).", "','(a,b)");
        Edge.within("','=','.", "=(',',',')");
        Edge.within("f(',',a).", "f(',',a)");
        Edge.within("- ','.", "-(',')");
        Edge.within("- ','(a).", "-(','(a))");
        Edge.within("a,b.", "','(a,b)");
        Edge.beyond("a ',' b.", 2);
        Edge.beyond("f(a ',' b).", 4);
        Edge.beyond("a ','(b).", 2);
        Edge.beyond("[a'|'b].", 2);
        Edge.beyond("f'('a).", 1);
    }

    private static void bracesStandNowhere() {
        for (String brace : new String[] {"{", "}", "{}", "{a}"}) {
            Edge.beyond(brace, 0);
            Edge.beyond(brace + ".", 0);
            Edge.beyond("a " + brace + ".", 2);
            Edge.beyond("f(" + brace + ").", 2);
            Edge.beyond("f(a" + brace + ").", 3);
            Edge.beyond("f" + brace + ".", 1);
            Edge.beyond("[" + brace + "].", 1);
            Edge.beyond("[a|" + brace + "].", 3);
            Edge.beyond("(" + brace + ").", 1);
            Edge.beyond("- " + brace + ".", 2);
            Edge.beyond("a = " + brace + ".", 4);
            Edge.beyond("a. " + brace, 3);
            Edge.within("'" + brace + "'.", "'" + brace + "'");
        }
    }

    private static void listsOfTerms() {
        Edge.within("[a].", "[a]");
        Edge.within("[a|b].", "[a|b]");
        Edge.within("[a,b|c].", "[a,b|c]");
        Edge.beyond("[a,].", 3);
        Edge.beyond("[,a].", 1);
        Edge.beyond("[|a].", 1);
        Edge.beyond("[a|].", 3);
        Edge.beyond("[a||b].", 3);
        Edge.beyond("[a|b,c].", 4);
        Edge.beyond("[a|b|c].", 4);
        Edge.beyond("[a b].", 3);
        Edge.beyond("[a).", 2);
        Edge.beyond("[a", 2);
        Edge.beyond("[a.", 2);
        Edge.beyond("f(a|b).", 3);
        Edge.beyond("a|b.", 1);
        Edge.beyond("].", 0);
        Edge.beyond("|.", 0);
        Edge.beyond(",.", 0);
        Edge.beyond(").", 0);
    }

    private static void theSameVariable() {
        Edge.within("f(X,X).", "f(_0,_0)");
        Edge.within("f(X,Y,X,Y).", "f(_0,_1,_0,_1)");
        Edge.within("f(X,x,XX,X_,X1,Xx,X).", "f(_0,x,_1,_2,_3,_4,_0)");
        Edge.within("f(_a,_a,__,__,_1,_1,_A,A).", "f(_0,_0,_1,_1,_2,_2,_3,_4)");
        Edge.within("X+Y:-[Y|X].", ":-(+(_0,_1),[_1|_0])");
        TermReader reader = new TermReader();
        Checks.read(reader, "f(A,B).");
        Checks.read(reader, "g(B,A).");
        Told.read("g(_0,_1)", 3, 2, 1).due("another term has other variables", reader);
        Checks.due("broken", Checks.read(reader, "g(C,D,"), Checks.BROKEN);
        Checks.read(reader, "h(D).");
        Told.read("h(_0)", 2, 1, 1).due("behind a broken term", reader);
    }

    private static void thePlainLineIsAlwaysAnother() {
        Edge.within("_.", "_0");
        Edge.within("f(_,_).", "f(_0,_1)");
        Edge.within("f(_,X,_,X,_).", "f(_0,_1,_2,_1,_3)");
        Edge.within("f(_0,_,_0).", "f(_0,_1,_0)");
        Edge.within("_+_ = [_|_].", "=(+(_0,_1),[_2|_3])");
    }
}
