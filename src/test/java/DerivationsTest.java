import java.util.ArrayList;
import java.util.List;
import java.util.Random;
import java.util.TreeSet;

/** Promise 4: what is read is what the grammar makes of it, for every few signs and for many more of them. */
public final class DerivationsTest {
    private static final String[] SIGNS = {
        "a", "X", "7", "-7", "f(", "-(", "mod(", "(", ")", "[", "]", "[]", ",", "|", "=", "-", "\\+", "mod", ":-", ";"};
    private static final String[] BEGIN = {
        "a", "a", "X", "7", "-7", "f(", "-(", "=(", "\\+(", "(", "[", "[]", "-", "\\+", "-", "\\+", "mod", ":-"};
    private static final String[] GO_ON = {
        ":-", ";", "->", ",", "=", "\\=", "==", "\\==", "is", "<", ">", "=<", ">=", "=:=", "=\\=", "+", "-", "*", "//",
        "mod", "rem", "+(", "->(", "-7", ",", ",", ";", "->", "|"};
    private static final int LENGTH = 4;
    private static final int MANY = 40000;
    // With its feeds and the words of its result a read takes some 25 calls at most: far fewer than 512 in all.
    private static final int READS_OF_ONE = 16;

    private static TermReader reader = new TermReader();
    private static int reads = 0;
    private static int terms = 0;

    public static void main(String[] args) {
        for (int length = 1; length <= LENGTH; length++) {
            for (List<String> pieces : Sequences.of(SIGNS, length)) {
                look(pieces);
            }
        }
        sequencesThatLookLikeTerms();
        Checks.due("more than a few of them are terms", terms > MANY / 4 ? 1 : 0, 1);
        Checks.finish();
    }

    private static void sequencesThatLookLikeTerms() {
        Random random = new Random(5);
        for (int i = 0; i < MANY; i++) {
            look(likeATerm(random));
        }
    }

    private static List<String> likeATerm(Random random) {
        List<String> pieces = new ArrayList<>();
        StringBuilder open = new StringBuilder();
        boolean begins = true;
        int length = 3 + random.nextInt(9);
        while (pieces.size() < length) {
            String piece = begins ? BEGIN[random.nextInt(BEGIN.length)] : goesOn(open, random);
            pieces.add(piece);
            if (piece.endsWith("(")) {
                open.append(')');
            } else if (piece.equals("[")) {
                open.append(']');
            }
            begins = beginsBehind(piece, begins, random);
        }
        if (begins) {
            pieces.add("a");
        }
        while (open.length() > 0) {
            pieces.add(close(open));
        }
        return pieces;
    }

    private static String goesOn(StringBuilder open, Random random) {
        boolean closes = open.length() > 0 && random.nextInt(3) == 0;
        return closes ? close(open) : GO_ON[random.nextInt(GO_ON.length)];
    }

    private static boolean beginsBehind(String piece, boolean begun, Random random) {
        if (piece.endsWith("(") || piece.equals("[")) {
            return true;
        }
        if (begun) {
            return (piece.equals("-") || piece.equals("\\+")) && random.nextInt(4) > 0;
        }
        return !piece.equals(")") && !piece.equals("]") && !piece.equals("-7");
    }

    private static String close(StringBuilder open) {
        String last = open.substring(open.length() - 1);
        open.setLength(open.length() - 1);
        return last;
    }

    private static void look(List<String> pieces) {
        if (reads % READS_OF_ONE == 0) {
            reader = new TermReader();
        }
        reads++;
        List<Derivations.Sign> signs = new ArrayList<>();
        for (String piece : pieces) {
            addSigns(piece, signs);
        }
        String text = String.join(" ", pieces) + " .";
        TreeSet<String> due = Derivations.of(signs);
        int thrown = Checks.read(reader, text);
        if (due.isEmpty()) {
            Checks.due("read of " + text + ": thrown", thrown, Checks.BROKEN);
        } else {
            terms++;
            Checks.due("read of " + text + ": thrown", thrown, 0);
            Checks.due("read of " + text, thrown == 0 ? "[" + Checks.result(reader) + "]" : "", due.toString());
        }
    }

    private static void addSigns(String piece, List<Derivations.Sign> signs) {
        boolean two = piece.equals("-7") || piece.length() > 1 && piece.endsWith("(");
        if (two) {
            int cut = piece.length() - 1;
            signs.add(new Derivations.Sign(piece.substring(0, cut), true));
            signs.add(new Derivations.Sign(piece.substring(cut), false));
        } else {
            signs.add(new Derivations.Sign(piece, false));
        }
    }
}
