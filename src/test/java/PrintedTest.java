import java.util.Random;

/** Promise 4: what is printed. */
public final class PrintedTest {
    private static final String[] LEAVES = {
        "a", "X", "Y", "_", "0", "12", "-3", "- 3", "[]", "'x y'", "''", "'it''s'", "'.'", "','", "'{}'", "(-)", "(mod)", "!", "(;)"};
    private static final String[] INFIX = {":-", ";", "->", ",", "=", "is", "=\\=", "+", "-", "*", "//", "mod"};
    private static final String[] NAMES = {"f", "'F'", "[]", "'.'", "-", "=", "';'", "','"};

    public static void main(String[] args) {
        names();
        variableNumbers();
        whatIsPrintedCanBeReadAgain();
        Checks.finish();
    }

    private static void names() {
        String[] plain = {"a", "aB_9", "+", "..", ".=", "=..", "!", ";", "[]", "\\", "#$&@?", "mod", ":-"};
        for (String name : plain) {
            printsName(name, name);
        }
        String[] quoted = {
            "", " ", "A", "_", "_a", "1", "1a", ".", ",", "|", "(", ")", "[", "]", "{", "}", "{}", "()", "[ ]", "[]]", "[[", "[+",
            "!!", "!a", ";;", ";=", "a b", "a-b", "a.", "+a", "+ +", "%", "\"", "`", "~a", "a'", "a!", "- "};
        for (String name : quoted) {
            String printed = "'" + name.replace("'", "''") + "'";
            printsName(name, printed);
        }
    }

    private static void printsName(String name, String printed) {
        String written = "'" + name.replace("'", "''") + "'";
        Checks.prints(written + ".", printed);
        Checks.prints(written + "(a).", printed + "(a)");
        Checks.prints("f(" + written + ",b).", "f(" + printed + ",b)");
    }

    private static void variableNumbers() {
        Checks.prints("f(Z,Y)=g(Y,Z,X).", "=(f(_0,_1),g(_1,_0,_2))");
        Checks.prints("_1+_0.", "+(_0,_1)");
        StringBuilder text = new StringBuilder("[V0");
        StringBuilder printed = new StringBuilder("[_0");
        for (int i = 1; i < 499; i++) {
            text.append(",V").append(i);
            printed.append(",_").append(i);
        }
        Checks.prints(text + "].", printed + "]");
        TermReader reader = new TermReader();
        Checks.read(reader, "f(A,B).");
        Checks.read(reader, "f(B,A).");
        Checks.due("each term has its own variables", Checks.result(reader), "f(_0,_1)");
    }

    private static void whatIsPrintedCanBeReadAgain() {
        Random random = new Random(7);
        int readWell = 0;
        for (int i = 0; i < 4000; i++) {
            TermReader reader = new TermReader();
            if (Checks.read(reader, term(random, 4) + " .") == 0) {
                readWell++;
                String printed = Checks.result(reader);
                int symbols = reader.about(0);
                Checks.due("again " + printed, Checks.read(reader, printed + " ."), 0);
                Checks.due("again", Checks.result(reader), printed);
                Checks.due("symbols again", reader.about(0), symbols);
            }
        }
        Checks.due("enough were read", readWell > 3000 ? 1 : 0, 1);
    }

    private static String term(Random random, int depth) {
        int pick = depth == 0 ? 0 : random.nextInt(5);
        switch (pick) {
            case 1:
                return "(" + term(random, depth - 1) + " " + any(random, INFIX) + " " + term(random, depth - 1) + ")";
            case 2:
                return any(random, NAMES) + "(" + term(random, depth - 1) + "," + term(random, depth - 1) + ")";
            case 3:
                return "[" + term(random, depth - 1) + "," + term(random, depth - 1) + "|" + term(random, depth - 1) + "]";
            case 4:
                return "\\+ (" + term(random, depth - 1) + ")";
            default:
                return any(random, LEAVES);
        }
    }

    private static String any(Random random, String[] texts) {
        return texts[random.nextInt(texts.length)];
    }
}
