import java.util.HashMap;
import java.util.List;
import java.util.Map;
import java.util.TreeSet;

/**
 * Every way in which the document's grammar makes a term of some signs, found by trying all of them: there is
 * no parser in it, and nothing of the program's own way.
 */
final class Derivations {
    /** What stands here: a sign, and whether the sign behind it is right behind it. */
    record Sign(String text, boolean glued) {
    }

    private static final int ALL = 1200;
    private static final int ITEM = 999;
    private static final Map<String, Integer> INFIX = new HashMap<>();
    private static final Map<String, Integer> PREFIX = Map.of("\\+", 900, "-", 200);

    static {
        String[] names = {
            ":-", ";", "->", ",", "=", "\\=", "==", "\\==", "is", "<", ">", "=<", ">=", "=:=", "=\\=", "+", "-",
            "*", "//", "mod", "rem"};
        int[] ranks = {
            1200, 1100, 1050, 1000, 700, 700, 700, 700, 700, 700, 700, 700, 700, 700, 700, 500, 500,
            400, 400, 400, 400};
        for (int i = 0; i < names.length; i++) {
            INFIX.put(names[i], ranks[i]);
        }
    }

    private record Asked(int from, int to, int most, int place) {
    }

    private final List<Sign> signs;
    private final Map<Asked, TreeSet<String>> known = new HashMap<>();

    private Derivations(List<Sign> signs) {
        this.signs = signs;
    }

    /** All that the signs can be, as it is printed. */
    static TreeSet<String> of(List<Sign> signs) {
        return new Derivations(signs).terms(0, signs.size(), ALL, ALL);
    }

    /** Terms of so great a rank at most; place: what the outermost term that begins there may have. */
    private TreeSet<String> terms(int from, int to, int most, int place) {
        Asked asked = new Asked(from, to, most, place);
        TreeSet<String> found = known.get(asked);
        if (found == null) {
            found = new TreeSet<>();
            if (from < to) {
                primaries(from, to, place, found);
                prefixed(from, to, most, place, found);
                joined(from, to, most, place, found);
            }
            known.put(asked, found);
        }
        return found;
    }

    private void primaries(int from, int to, int place, TreeSet<String> found) {
        if (to == from + 1) {
            if (isName(from) && !isPrefix(from, place) || text(from).equals("7")) {
                found.add(printed(text(from)));
            } else if (text(from).equals("X")) {
                found.add("_0");
            }
        } else if (to == from + 2 && isBelowZero(from)) {
            found.add("-7");
        } else if (opensTerms(from) && text(to - 1).equals(")")) {
            for (String items : items(from + 2, to - 1, 8)) {
                found.add(printed(text(from)) + "(" + items + ")");
            }
        } else if (text(from).equals("(") && text(to - 1).equals(")")) {
            found.addAll(terms(from + 1, to - 1, ALL, ALL));
        } else if (text(from).equals("[") && text(to - 1).equals("]")) {
            lists(from + 1, to - 1, found);
        }
    }

    private void lists(int from, int to, TreeSet<String> found) {
        for (String items : items(from, to, to)) {
            found.add("[" + items + "]");
        }
        for (int bar = from + 1; bar < to; bar++) {
            if (text(bar).equals("|")) {
                for (String items : items(from, bar, bar)) {
                    for (String tail : terms(bar + 1, to, ITEM, ITEM)) {
                        found.add("[" + items + tailPrinted(tail));
                    }
                }
            }
        }
    }

    private static String tailPrinted(String tail) {
        if (tail.equals("[]")) {
            return "]";
        }
        boolean list = tail.startsWith("[") && !tail.startsWith("[]");
        return list ? "," + tail.substring(1) : "|" + tail + "]";
    }

    private TreeSet<String> items(int from, int to, int atMost) {
        TreeSet<String> found = new TreeSet<>();
        if (atMost > 0) {
            found.addAll(terms(from, to, ITEM, ITEM));
            for (int comma = from + 1; comma < to; comma++) {
                if (text(comma).equals(",")) {
                    pair(terms(from, comma, ITEM, ITEM), items(comma + 1, to, atMost - 1), "", "", found);
                }
            }
        }
        return found;
    }

    private void prefixed(int from, int to, int most, int place, TreeSet<String> found) {
        if (isPrefix(from, place) && PREFIX.get(text(from)) <= most) {
            int rank = PREFIX.get(text(from));
            for (String operand : terms(from + 1, to, rank, rank)) {
                found.add(text(from) + "(" + operand + ")");
            }
        }
    }

    private void joined(int from, int to, int most, int place, TreeSet<String> found) {
        for (int op = from + 1; op < to - 1; op++) {
            int rank = INFIX.getOrDefault(text(op), ALL + 1);
            if (rank <= most) {
                boolean yfx = rank <= 500;
                boolean xfy = rank >= 1000 && rank <= 1100;
                TreeSet<String> left = terms(from, op, yfx ? rank : rank - 1, place);
                int right = xfy ? rank : rank - 1;
                pair(left, terms(op + 1, to, right, right), printed(text(op)) + "(", ")", found);
            }
        }
    }

    private static void pair(
            TreeSet<String> left, TreeSet<String> right, String before, String behind, TreeSet<String> found) {
        for (String one : left) {
            for (String other : right) {
                found.add(before + one + "," + other + behind);
            }
        }
    }

    private boolean isPrefix(int i, int place) {
        Integer rank = PREFIX.get(text(i));
        return rank != null && rank <= place && !signs.get(i).glued() && canBegin(i + 1);
    }

    private boolean canBegin(int i) {
        if (i >= signs.size() || ")],|".contains(text(i))) {
            return false;
        }
        return PREFIX.containsKey(text(i)) || !INFIX.containsKey(text(i));
    }

    private boolean isBelowZero(int i) {
        return text(i).equals("-") && signs.get(i).glued() && text(i + 1).equals("7");
    }

    private boolean opensTerms(int i) {
        return isName(i) && signs.get(i).glued() && text(i + 1).equals("(");
    }

    private boolean isName(int i) {
        return !"()[],|X7".contains(text(i)) || text(i).equals("[]");
    }

    private static String printed(String name) {
        return name.equals(",") ? "','" : name;
    }

    private String text(int i) {
        return signs.get(i).text();
    }
}
