import java.util.List;
import java.util.Random;

/**
 * Where a text is broken, seen without knowing the grammar: what stands before the place can still become a
 * term, and with the sign at the place it never can, whatever follows.
 */
public final class PlaceTest {
    private static final String[] SIGNS = {
        "a", "X", "7", "-7", "f(", "-(", "mod(", "(", ")", "[", "]", "[]", ",", "|", "=", "-", "\\+", "mod", ":-", ";",
        "{", "','", "\"", "9007199254740992", ". "};
    private static final String[] GOES_ON = {"", " a", " = a", ", a", " (a)", " - a", " )", " a)", "a]", "|a]", " ,a)"};

    public static void main(String[] args) {
        for (int length = 1; length <= 3; length++) {
            for (List<String> signs : Sequences.of(SIGNS, length)) {
                look(signs.toArray(new String[0]));
            }
        }
        longerSequences();
        Checks.finish();
    }

    private static void longerSequences() {
        Random random = new Random(11);
        for (int i = 0; i < 20000; i++) {
            String[] signs = new String[4 + random.nextInt(9)];
            for (int k = 0; k < signs.length; k++) {
                signs[k] = SIGNS[random.nextInt(SIGNS.length)];
            }
            look(signs);
        }
    }

    private static void look(String[] signs) {
        String text = String.join(" ", signs);
        TermReader reader = new TermReader();
        if (Checks.read(reader, text) == 0) {
            Checks.due("no place of " + text, reader.count(2), -1);
            return;
        }
        int place = reader.count(2);
        String before = text.substring(0, place);
        Checks.due("what stands before " + place + " in " + text + " can go on", canBecomeATerm(reader, before) ? 1 : 0, 1);
        if (place < text.length()) {
            String with = before + signAt(signs, place);
            for (String more : GOES_ON) {
                Checks.due("read of " + with + more, Checks.read(reader, with + " " + more + " ."), Checks.BROKEN);
                Checks.due("place of " + with + more, reader.count(2), place);
            }
        }
    }

    private static boolean canBecomeATerm(TermReader reader, String before) {
        String close = closing(before);
        return Checks.read(reader, before) == 0
            || Checks.read(reader, before + " " + close + " .") == 0
            || Checks.read(reader, before + " a " + close + " .") == 0;
    }

    private static String closing(String before) {
        String close = "";
        for (String sign : before.split(" ")) {
            if (sign.endsWith("(")) {
                close = ")" + close;
            } else if (sign.equals("[")) {
                close = "]" + close;
            } else if (sign.equals(")") || sign.equals("]")) {
                close = close.substring(1);
            }
        }
        return close;
    }

    private static String signAt(String[] signs, int place) {
        int start = 0;
        for (String sign : signs) {
            if (start == place) {
                return sign;
            }
            start += sign.length() + 1;
        }
        Checks.due("a sign begins at " + place + " of " + String.join(" ", signs), 0, 1);
        return "";
    }
}
