/** Promise 4: operators, prefixes, terms in parentheses, compounds and lists. */
public final class OperatorsTest {
    private static final String[] INFIX = {
        ":-", ";", "->", ",", "=", "\\=", "==", "\\==", "is", "<", ">", "=<", ">=", "=:=", "=\\=",
        "+", "-", "*", "//", "mod", "rem"};
    private static final int[] RANK = {
        1200, 1100, 1050, 1000, 700, 700, 700, 700, 700, 700, 700, 700, 700, 700, 700, 500, 500, 400, 400, 400, 400};

    public static void main(String[] args) {
        everyTwoOperators();
        operatorsInTerms();
        operatorsInParentheses();
        operatorsAsAtoms();
        operatorsInQuotes();
        operatorsRightBeforeParentheses();
        minusAndIntegers();
        prefixes();
        prefixesThatAreNone();
        prefixesOfTooGreatRank();
        compounds();
        lists();
        braces();
        Checks.finish();
    }

    private static void everyTwoOperators() {
        for (int i = 0; i < INFIX.length; i++) {
            for (int k = 0; k < INFIX.length; k++) {
                String text = "a " + INFIX[i] + " b " + INFIX[k] + " c.";
                String one = name(INFIX[i]);
                String other = name(INFIX[k]);
                boolean equal = RANK[i] == RANK[k];
                if (RANK[i] > RANK[k] || equal && isRightFirst(RANK[i])) {
                    Checks.prints(text, one + "(a," + other + "(b,c))");
                } else if (RANK[i] < RANK[k] || RANK[i] <= 500) {
                    Checks.prints(text, other + "(" + one + "(a,b),c)");
                } else {
                    Checks.breaks(text, 5 + INFIX[i].length());
                }
            }
        }
    }

    private static String name(String operator) {
        return operator.equals(",") ? "','" : operator;
    }

    private static boolean isRightFirst(int rank) {
        return rank == 1100 || rank == 1050 || rank == 1000;
    }

    private static void operatorsInTerms() {
        for (int i = 0; i < INFIX.length; i++) {
            String text = "a " + INFIX[i] + " b";
            String printed = name(INFIX[i]) + "(a,b)";
            if (RANK[i] <= 999) {
                Checks.prints("f(" + text + ").", "f(" + printed + ")");
                Checks.prints("[" + text + "].", "[" + printed + "]");
                Checks.prints("[c|" + text + "].", "[c|" + printed + "]");
            } else if (!INFIX[i].equals(",")) {
                Checks.breaks("f(" + text + ").", 4);
                Checks.breaks("[" + text + "].", 3);
                Checks.breaks("[c|" + text + "].", 5);
            }
            Checks.prints("f((" + text + ")).", "f(" + printed + ")");
            Checks.prints("[(" + text + ")].", "[" + printed + "]");
        }
    }

    private static void operatorsInParentheses() {
        Checks.prints("(a:-b):-c.", ":-(:-(a,b),c)");
        Checks.prints("a=(b=c).", "=(a,=(b,c))");
        Checks.prints("(a+b)*c.", "*(+(a,b),c)");
        Checks.prints("a-(b-c).", "-(a,-(b,c))");
        Checks.prints("((a,b),c).", "','(','(a,b),c)");
        Checks.prints("( a ).", "a");
        Checks.breaks("(a.", 2);
        Checks.breaks("(a", 2);
        Checks.breaks("().", 1);
        Checks.breaks("(a b).", 3);
        Checks.breaks("(a].", 2);
        Checks.breaks("(a)).", 3);
        Checks.breaks("(a)(b).", 3);
        Checks.breaks("(a|b).", 2);
    }

    private static void operatorsAsAtoms() {
        Checks.prints("mod.", "mod");
        Checks.prints("= = = .", "=(=,=)");
        Checks.prints(":- :- :- .", ":-(:-,:-)");
        Checks.prints("mod mod mod.", "mod(mod,mod)");
        Checks.prints("f(:-,;,->,is).", "f(:-,;,->,is)");
        Checks.prints("[=|=].", "[=|=]");
        Checks.prints("[-,+|*].", "[-,+|*]");
        Checks.prints("(:-)=(;).", "=(:-,;)");
        Checks.breaks(":- a.", 3);
        Checks.breaks("a + + b.", 6);
        Checks.breaks("a b.", 2);
        Checks.breaks("a + .", 4);
        Checks.breaks("+ + .", 4);
        Checks.breaks(", a.", 0);
        Checks.breaks("a , , b.", 4);
    }

    private static void operatorsInQuotes() {
        Checks.prints("a '=' b.", "=(a,b)");
        Checks.prints("a 'mod' b '+' c.", "+(mod(a,b),c)");
        Checks.prints("'\\+' a.", "\\+(a)");
        Checks.prints("'-' a.", "-(a)");
        Checks.prints("'-'1.", "-1");
        Checks.prints("'-' 1.", "-(1)");
        Checks.prints("','(a,b).", "','(a,b)");
        Checks.prints("- ',' .", "-(',')");
        Checks.prints("[','].", "[',']");
        Checks.breaks("a ',' b.", 2);
        Checks.breaks("a '|' b.", 2);
    }

    private static void operatorsRightBeforeParentheses() {
        Checks.prints("2*(3+4).", "*(2,+(3,4))");
        Checks.prints("a=(b).", "=(a,b)");
        Checks.prints("a mod(b).", "mod(a,b)");
        Checks.prints("a -(b,c).", "-(a,','(b,c))");
        Checks.prints("=(a,b).", "=(a,b)");
        Checks.prints("=(a).", "=(a)");
        Checks.prints("-(a).", "-(a)");
        Checks.prints("-(1).", "-(1)");
        Checks.prints("-(1,2).", "-(1,2)");
        Checks.prints("- (1).", "-(1)");
        Checks.prints("- (1,2).", "-(','(1,2))");
        Checks.prints("\\+(a,b).", "\\+(a,b)");
        Checks.prints("\\+ (a,b).", "\\+(','(a,b))");
        Checks.prints("-(3)*2.", "*(-(3),2)");
        Checks.prints("- (3)*2.", "*(-(3),2)");
        Checks.breaks("= (a).", 2);
        Checks.breaks("a (b).", 2);
    }

    private static void minusAndIntegers() {
        Checks.prints("-1.", "-1");
        Checks.prints("- 1.", "-(1)");
        Checks.prints("-%\n1.", "-(1)");
        Checks.prints("-0.", "0");
        Checks.prints("-007.", "-7");
        Checks.prints("a-1.", "-(a,1)");
        Checks.prints("a -1.", "-(a,1)");
        Checks.prints("a - -1.", "-(a,-1)");
        Checks.prints("- -1.", "-(-1)");
        Checks.prints("- - 1.", "-(-(1))");
        Checks.prints("-1+2.", "+(-1,2)");
        Checks.prints("- 1+2.", "+(-(1),2)");
        Checks.prints("[-1,-a].", "[-1,-(a)]");
        Checks.prints("\\+ -1.", "\\+(-1)");
        Checks.prints("(-)-1.", "-(-,1)");
        Checks.breaks("--1.", 2);
        Checks.breaks("-1 2.", 3);
        Checks.breaks("-1(a).", 2);
        Checks.breaks("+1.", 1);
    }

    private static void prefixes() {
        Checks.prints("-a*b.", "*(-(a),b)");
        Checks.prints("- - -a.", "-(-(-(a)))");
        Checks.prints("-X.", "-(_0)");
        Checks.prints("-[a].", "-([a])");
        Checks.prints("-[].", "-([])");
        Checks.prints("-f(a).", "-(f(a))");
        Checks.prints("a - -b.", "-(a,-(b))");
        Checks.prints("a - - - b.", "-(a,-(-(b)))");
        Checks.prints("\\+ \\+ X=1.", "\\+(\\+(=(_0,1)))");
        Checks.prints("\\+a,b.", "','(\\+(a),b)");
        Checks.prints("\\+a->b.", "->(\\+(a),b)");
        Checks.prints("\\+ -a.", "\\+(-(a))");
        Checks.prints("f(\\+a,-b).", "f(\\+(a),-(b))");
        Checks.prints("(\\+a)=b.", "=(\\+(a),b)");
        Checks.prints("- -(1).", "-(-(1))");
        Checks.breaks("a \\+ b.", 2);
        Checks.breaks("\\+ a \\+ b.", 5);
    }

    private static void prefixesThatAreNone() {
        Checks.prints("- .", "-");
        Checks.prints("(-).", "-");
        Checks.prints("f(-).", "f(-)");
        Checks.prints("f(-,\\+).", "f(-,\\+)");
        Checks.prints("[-].", "[-]");
        Checks.prints("[-|\\+].", "[-|\\+]");
        Checks.prints("- , a.", "','(-,a)");
        Checks.prints("- = a.", "=(-,a)");
        Checks.prints("- + 1.", "+(-,1)");
        Checks.prints("\\+ = a.", "=(\\+,a)");
        Checks.prints("- =(a,b).", "=(-,','(a,b))");
        Checks.prints("\\+ mod(a).", "mod(\\+,a)");
        Checks.prints("- - .", "-(-)");
        Checks.prints("a - - .", "-(a,-)");
        Checks.prints("\\+ - .", "\\+(-)");
        Checks.breaks("- mod.", 5);
        Checks.breaks("- =", 3);
        Checks.breaks("-", 1);
    }

    private static void prefixesOfTooGreatRank() {
        Checks.prints("a = \\+ .", "=(a,\\+)");
        Checks.prints("- \\+ .", "-(\\+)");
        Checks.prints("a = \\+(b).", "=(a,\\+(b))");
        Checks.prints("a = (\\+ b).", "=(a,\\+(b))");
        Checks.prints("a = \\+ , b.", "','(=(a,\\+),b)");
        Checks.prints("a + \\+ = b.", "=(+(a,\\+),b)");
        Checks.breaks("a = \\+ b.", 7);
        Checks.breaks("- \\+ b.", 5);
        Checks.breaks("a = \\+ (b).", 7);
        Checks.breaks("a * \\+ b.", 7);
        Checks.breaks("a = \\+ = b.", 7);
    }

    private static void compounds() {
        Checks.prints("f(a).", "f(a)");
        Checks.prints("f( a , b ).", "f(a,b)");
        Checks.prints("f(a,b,c,d,e,f,g,h).", "f(a,b,c,d,e,f,g,h)");
        Checks.prints("f((a,b)).", "f(','(a,b))");
        Checks.prints("f(g(h)).", "f(g(h))");
        Checks.breaks("f().", 2);
        Checks.breaks("f (a).", 2);
        Checks.breaks("f%\n(a).", 3);
        Checks.breaks("f(a,).", 4);
        Checks.breaks("f(,a).", 2);
        Checks.breaks("f(a|b).", 3);
        Checks.breaks("f(a].", 3);
        Checks.breaks("f(a b).", 4);
        Checks.breaks("f(a", 3);
        Checks.breaks("f(a.", 3);
        Checks.breaks("f(a)(b).", 4);
        Checks.breaks("f(a,b,c,d,e,f,g,h,i).", 18);
        Checks.breaks("f(a,b,c,d,e,f,g,h, i+1).", 19);
        Checks.breaks("f(a,b,c,d,e,f,g,h,).", 18);
        Checks.breaks("f(a,b,c,d,e,f,g,h,", 18);
    }

    private static void lists() {
        Checks.prints("[a].", "[a]");
        Checks.prints("[ a , b ].", "[a,b]");
        Checks.prints("[a,b|c].", "[a,b|c]");
        Checks.prints("[a|[]].", "[a]");
        Checks.prints("[a|'[]'].", "[a]");
        Checks.prints("[a|[b|[c]]].", "[a,b,c]");
        Checks.prints("[a|[b|c]].", "[a,b|c]");
        Checks.prints("[[a,b],[c]|[[]]].", "[[a,b],[c],[]]");
        Checks.prints("[1,2,3,4,5,6,7,8,9,10].", "[1,2,3,4,5,6,7,8,9,10]");
        Checks.prints("[X|X].", "[_0|_0]");
        Checks.prints("'.'(a,b).", "[a|b]");
        Checks.prints(".(a,.(b,[])).", "[a,b]");
        Checks.prints("'.'(a).", "'.'(a)");
        Checks.prints("'.'(a,b,c).", "'.'(a,b,c)");
        Checks.prints("[a|'.'].", "[a|'.']");
        Checks.prints("[a|[](b)].", "[a|[](b)]");
        Checks.prints("[(a,b)].", "[','(a,b)]");
        Checks.breaks("[a,].", 3);
        Checks.breaks("[,a].", 1);
        Checks.breaks("[|a].", 1);
        Checks.breaks("[a|].", 3);
        Checks.breaks("[a|b,c].", 4);
        Checks.breaks("[a|b|c].", 4);
        Checks.breaks("[a b].", 3);
        Checks.breaks("[a).", 2);
        Checks.breaks("[a", 2);
        Checks.breaks("[a](b).", 3);
        Checks.breaks("].", 0);
        Checks.breaks("|.", 0);
    }

    private static void braces() {
        Checks.breaks("{}.", 0);
        Checks.breaks("{a}.", 0);
        Checks.breaks("f({).", 2);
        Checks.breaks("a}.", 1);
        Checks.breaks("- }.", 2);
        Checks.breaks("- {.", 2);
        Checks.prints("'{}'(a).", "'{}'(a)");
    }
}
