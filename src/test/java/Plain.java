/** Counts in a printed term, which has no operators, what about tells: apart from the program's own count. */
final class Plain {
    private final String text;
    private int at = 0;
    private int symbols = 0;
    private int variables = 0;

    private Plain(String text) {
        this.text = text;
    }

    static Told told(String printed) {
        Plain plain = new Plain(printed);
        int nesting = plain.term();
        Checks.due("all of " + Checks.brief(printed), plain.at, printed.length());
        return Told.read(printed, plain.symbols, plain.variables, nesting);
    }

    // Each of these answers how many compounds stand within one another.
    private int term() {
        if (text.startsWith("[", at) && !text.startsWith("[]", at)) {
            return list();
        }
        symbols++;
        if (text.startsWith("_", at)) {
            return variable();
        }
        passName();
        return text.startsWith("(", at) ? terms() : 0;
    }

    private int list() {
        int deepest = 0;
        int pairs = 0;
        do {
            at++;
            pairs++;
            symbols++;
            deepest = Math.max(deepest, pairs + term());
        } while (text.startsWith(",", at));
        if (text.startsWith("|", at)) {
            at++;
            deepest = Math.max(deepest, pairs + term());
        } else {
            symbols++;
        }
        at++;
        return deepest;
    }

    private int terms() {
        int deepest = 0;
        do {
            at++;
            deepest = Math.max(deepest, 1 + term());
        } while (text.startsWith(",", at));
        at++;
        return deepest;
    }

    private int variable() {
        int from = at + 1;
        do {
            at++;
        } while (at < text.length() && Character.isDigit(text.charAt(at)));
        // They are numbered in the order in which they come, so that the greatest tells how many.
        variables = Math.max(variables, 1 + Integer.parseInt(text.substring(from, at)));
        return 0;
    }

    private void passName() {
        if (text.startsWith("[]", at)) {
            at += 2;
        } else if (text.startsWith("'", at)) {
            passQuoted();
        } else {
            while (at < text.length() && "(),]|".indexOf(text.charAt(at)) < 0) {
                at++;
            }
        }
    }

    private void passQuoted() {
        do {
            at = text.indexOf('\'', at + 1) + 1;
        } while (text.startsWith("'", at));
    }
}
