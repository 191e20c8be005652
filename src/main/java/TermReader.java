/** Reads terms with operators from a tape of bytes and prints them in plain form. */
public final class TermReader {
    private static final int ROOM = 4096;
    private static final int FED_AT_ONCE = 20;
    private static final int WORD_BYTES = 8;
    private static final int MOST_SYMBOLS = 1000;
    private static final int NONE = -1;

    private final byte[] tape = new byte[ROOM];
    private final Parser parser = new Parser();
    private final Printer printer = new Printer();
    private byte[] result = new byte[ROOM];
    private byte[] spare = new byte[ROOM];
    private int tapeLength;
    private int resultLength;
    private int symbols;
    private int variables;
    private int nesting;

    public TermReader() {
    }

    public int feed(int a, int b, int c, int d, int e) throws IndexOutOfBoundsException {
        if (tapeLength + FED_AT_ONCE > ROOM) {
            throw new IndexOutOfBoundsException("the tape has no room for 20 bytes more");
        }
        put(a);
        put(b);
        put(c);
        put(d);
        put(e);
        return tapeLength;
    }

    public int end(int n) throws IllegalArgumentException {
        if (n < 0 || n > tapeLength) {
            throw new IllegalArgumentException("the tape can't keep so many bytes");
        }
        tapeLength = n;
        return n;
    }

    public int read() throws UnsupportedOperationException, IndexOutOfBoundsException {
        int length = tapeLength;
        // Emptied before anything can throw: the tape is used up by a broken read, too.
        tapeLength = 0;
        Tree tree = parser.parse(tape, length);
        printer.print(tree, spare);
        if (printer.length > ROOM) {
            throw new IndexOutOfBoundsException("the printed term is too long");
        }
        keepPrinted(tree);
        return resultLength;
    }

    public int about(int what) throws IllegalArgumentException {
        if (what < 0 || what > 2) {
            throw new IllegalArgumentException("what is 0, 1 or 2");
        }
        if (what == 0) {
            return symbols;
        }
        return what == 1 ? variables : nesting;
    }

    public long word(int i) throws IndexOutOfBoundsException {
        if (i < 0 || i >= resultLength) {
            throw new IndexOutOfBoundsException("no byte of the result");
        }
        long bytes = 0;
        for (int k = 0; k < WORD_BYTES; k++) {
            int next = i + k < resultLength ? result[i + k] & 255 : 0;
            bytes = (bytes << 8) | next;
        }
        return bytes;
    }

    public int count(int what) throws IllegalArgumentException {
        if (what < 0 || what > 2) {
            throw new IllegalArgumentException("what is 0, 1 or 2");
        }
        if (what == 0) {
            return tapeLength;
        }
        return what == 1 ? resultLength : parser.brokenPlace();
    }

    private void put(int four) {
        for (int shift = 24; shift >= 0; shift -= 8) {
            tape[tapeLength] = (byte) (four >> shift);
            tapeLength++;
        }
    }

    // The rows change places, so that a result too long never touches the one that stays.
    private void keepPrinted(Tree tree) {
        byte[] printed = spare;
        spare = result;
        result = printed;
        resultLength = printer.length;
        symbols = tree.symbols;
        variables = tree.variables;
        nesting = printer.nesting;
    }

    /** What kind of sign stands on the tape. */
    private enum Sign {
        VARIABLE, INTEGER, NAME, END, OPEN, CLOSE, OPEN_LIST, CLOSE_LIST, BRACE, COMMA, BAR, NOTHING
    }

    /** The operators: rank, and the greatest rank on the left (NONE: a prefix) and on the right. */
    private enum Operator {
        NECK(":-", 1200, 1199, 1199),
        OR(";", 1100, 1099, 1100),
        THEN("->", 1050, 1049, 1050),
        AND(",", 1000, 999, 1000),
        NOT("\\+", 900, NONE, 900),
        EQUAL("=", 700, 699, 699),
        NOT_EQUAL("\\=", 700, 699, 699),
        SAME("==", 700, 699, 699),
        NOT_SAME("\\==", 700, 699, 699),
        IS("is", 700, 699, 699),
        LESS("<", 700, 699, 699),
        GREATER(">", 700, 699, 699),
        AT_MOST("=<", 700, 699, 699),
        AT_LEAST(">=", 700, 699, 699),
        SAME_VALUE("=:=", 700, 699, 699),
        OTHER_VALUE("=\\=", 700, 699, 699),
        PLUS("+", 500, 500, 499),
        MINUS("-", 500, 500, 499),
        TIMES("*", 400, 400, 399),
        DIVIDED("//", 400, 400, 399),
        MOD("mod", 400, 400, 399),
        REM("rem", 400, 400, 399),
        NEGATIVE("-", 200, NONE, 200),
        // Stands for no operator: its rank is above what any place takes.
        NO_OPERATOR("", 9999, NONE, NONE);

        private static final Operator[] ALL = values();

        private final String text;
        private final int rank;
        private final int left;
        private final int right;

        Operator(String text, int rank, int left, int right) {
            this.text = text;
            this.rank = rank;
            this.left = left;
            this.right = right;
        }

        static Operator infixAt(Signs signs) {
            return signs.sign == Sign.COMMA ? AND : named(signs, false);
        }

        static Operator prefixAt(Signs signs) {
            return named(signs, true);
        }

        private static Operator named(Signs signs, boolean prefix) {
            if (signs.sign != Sign.NAME) {
                return NO_OPERATOR;
            }
            for (int i = 0; i < ALL.length; i++) {
                Operator each = ALL[i];
                // A name that reads "," was in quotes, and that one is no operator.
                boolean fits = each != AND && each != NO_OPERATOR && (each.left == NONE) == prefix;
                if (fits && signs.textIs(each.text)) {
                    return each;
                }
            }
            return NO_OPERATOR;
        }
    }

    /** Cuts the tape into signs, one at a time; tells the place where it is broken. */
    private static final class Signs {
        private static final String SYMBOL_CHARACTERS = "+-*/\\^<>=~:.?@#&$";
        private static final long GREATEST_INTEGER = 9007199254740991L;
        private static final int LINE_FEED = 10;

        private byte[] bytes = new byte[0];
        private int length;
        private int after;
        Sign sign = Sign.NOTHING;
        int place;
        // Names: what stands between the quotes, if there are some; integers: without zeros in front.
        int textFrom;
        int textTo;
        int broken = NONE;

        void start(byte[] tape, int tapeLength) {
            bytes = tape;
            length = Math.min(tapeLength, tape.length);
            after = 0;
            broken = NONE;
            advance();
        }

        void advance() {
            skipBlanks();
            place = after;
            int first = at(place);
            if (first < 0) {
                take(Sign.NOTHING, place, place, place);
            } else if (isDigit(first)) {
                takeInteger();
            } else if (first == '\'') {
                takeQuoted();
            } else if (isSmall(first)) {
                takeWord(Sign.NAME);
            } else if (isWordCharacter(first)) {
                takeWord(Sign.VARIABLE);
            } else if (isSymbol(first)) {
                takeSymbols();
            } else {
                takeSolo(first);
            }
        }

        void mustBe(Sign due) {
            if (sign != due) {
                breakHere();
            }
        }

        void breakHere() {
            broken = place;
            throw new UnsupportedOperationException("a sign can't stand where it stands");
        }

        void breakAt(int where) {
            broken = where;
            throw new UnsupportedOperationException("what begins there is too great");
        }

        boolean textIs(String text) {
            if (textTo - textFrom != text.length()) {
                return false;
            }
            for (int i = 0; i < text.length(); i++) {
                if (at(textFrom + i) != text.charAt(i)) {
                    return false;
                }
            }
            return true;
        }

        boolean opensTerms() {
            return sign == Sign.NAME && at(after) == '(';
        }

        boolean isMinusOfInteger() {
            return sign == Sign.NAME && isDigit(at(after)) && textIs("-");
        }

        boolean canBeginTerm() {
            if (sign == Sign.NAME) {
                boolean infix = Operator.infixAt(this) != Operator.NO_OPERATOR;
                boolean prefix = Operator.prefixAt(this) != Operator.NO_OPERATOR;
                return prefix || !infix;
            }
            return sign == Sign.VARIABLE || sign == Sign.INTEGER || sign == Sign.OPEN || sign == Sign.OPEN_LIST;
        }

        private int at(int i) {
            return i >= 0 && i < length ? bytes[i] & 255 : NONE;
        }

        private void skipBlanks() {
            boolean inComment = false;
            while (after < length) {
                int next = at(after);
                if (inComment) {
                    inComment = next != LINE_FEED;
                } else if (next == '%') {
                    inComment = true;
                } else if (!isBlank(next)) {
                    return;
                }
                after++;
            }
        }

        private void take(Sign kind, int from, int to, int behind) {
            sign = kind;
            textFrom = from;
            textTo = to;
            after = behind;
        }

        private void takeInteger() {
            int first = place;
            long value = 0;
            int i = place;
            while (i < length && isDigit(at(i))) {
                if (value == 0) {
                    first = i;
                }
                // Beyond the greatest it need not grow, and so can't run over.
                value = value > GREATEST_INTEGER ? value : value * 10 + at(i) - '0';
                i++;
            }
            if (value > GREATEST_INTEGER) {
                breakHere();
            }
            take(Sign.INTEGER, first, i, i);
        }

        private void takeQuoted() {
            int i = place + 1;
            while (i < length && at(i) >= 32 && at(i) <= 126) {
                if (at(i) != '\'') {
                    i++;
                } else if (at(i + 1) == '\'') {
                    i += 2;
                } else {
                    take(Sign.NAME, place + 1, i, i + 1);
                    return;
                }
            }
            breakHere();
        }

        private void takeSymbols() {
            int to = place;
            while (to < length && isSymbol(at(to))) {
                to++;
            }
            boolean alone = at(place) == '.' && to == place + 1;
            boolean ends = at(to) < 0 || at(to) == '%' || isBlank(at(to));
            take(alone && ends ? Sign.END : Sign.NAME, place, to, to);
        }

        private void takeSolo(int first) {
            boolean emptyList = first == '[' && at(place + 1) == ']';
            Sign kind = emptyList ? Sign.NAME : soloSign(first);
            if (kind == Sign.NOTHING) {
                breakHere();
            }
            int to = place + (emptyList ? 2 : 1);
            take(kind, place, to, to);
        }

        private void takeWord(Sign kind) {
            int to = place;
            while (to < length && isWordCharacter(at(to))) {
                to++;
            }
            take(kind, place, to, to);
        }

        private static Sign soloSign(int c) {
            switch (c) {
                case '(': return Sign.OPEN;
                case ')': return Sign.CLOSE;
                case '[': return Sign.OPEN_LIST;
                case ']': return Sign.CLOSE_LIST;
                case '{': return Sign.BRACE;
                case '}': return Sign.BRACE;
                case ',': return Sign.COMMA;
                case '|': return Sign.BAR;
                case '!': return Sign.NAME;
                case ';': return Sign.NAME;
                default: return Sign.NOTHING;
            }
        }

        static boolean isSymbol(int c) {
            return c >= 0 && SYMBOL_CHARACTERS.indexOf((char) c) >= 0;
        }

        static boolean isSmall(int c) {
            return c >= 'a' && c <= 'z';
        }

        static boolean isWordCharacter(int c) {
            return c >= 'a' && c <= 'z' || c >= 'A' && c <= 'Z' || c >= '0' && c <= '9' || c == '_';
        }

        private static boolean isDigit(int c) {
            return c >= '0' && c <= '9';
        }

        private static boolean isBlank(int c) {
            return c == 9 || c == LINE_FEED || c == 13 || c == 32;
        }
    }

    /** The symbols of one term, by number; their texts stay on the tape and are told by their places. */
    private static final class Tree {
        static final int VARIABLE = 0;
        static final int INTEGER = 1;
        static final int INTEGER_BELOW = 2;
        static final int NAME = 3;
        static final int PAIR = 4;
        static final int EMPTY_LIST = 5;
        // The last row takes every symbol too many: the count alone matters then.
        private static final int ROWS = MOST_SYMBOLS + 1;

        final int[] kind = new int[ROWS];
        final int[] from = new int[ROWS];
        final int[] to = new int[ROWS];
        final int[] owner = new int[ROWS];
        final int[] child = new int[ROWS];
        final int[] next = new int[ROWS];
        final int[] number = new int[ROWS];
        private final int[] firstUse = new int[ROWS];
        byte[] tape = new byte[0];
        int symbols;
        int variables;
        int root;

        void start(byte[] bytes) {
            tape = bytes;
            symbols = 0;
            variables = 0;
            root = 0;
        }

        int add(int symbolKind, int textFrom, int textTo) {
            int node = Math.min(symbols, ROWS - 1);
            symbols++;
            kind[node] = symbolKind;
            from[node] = textFrom;
            to[node] = textTo;
            owner[node] = NONE;
            child[node] = NONE;
            next[node] = NONE;
            number[node] = NONE;
            return node;
        }

        int addVariable(int textFrom, int textTo) {
            int node = add(VARIABLE, textFrom, textTo);
            boolean nameless = textTo - textFrom == 1 && tape[textFrom] == '_';
            int known = nameless ? NONE : knownVariable(node);
            if (known != NONE) {
                number[node] = known;
            } else if (variables < MOST_SYMBOLS) {
                firstUse[variables] = node;
                number[node] = variables;
                variables++;
            }
            return node;
        }

        void giveFirst(int parent, int first) {
            child[parent] = first;
            owner[first] = parent;
        }

        void giveNext(int sibling, int following) {
            next[sibling] = following;
            owner[following] = owner[sibling];
        }

        private int knownVariable(int node) {
            for (int i = 0; i < variables; i++) {
                if (sameText(firstUse[i], node)) {
                    return i;
                }
            }
            return NONE;
        }

        private boolean sameText(int one, int other) {
            int length = to[one] - from[one];
            if (length != to[other] - from[other]) {
                return false;
            }
            for (int i = 0; i < length; i++) {
                if (tape[from[one] + i] != tape[from[other] + i]) {
                    return false;
                }
            }
            return true;
        }
    }

    /** Makes the tree of the term that stands on the tape. */
    private static final class Parser {
        private static final int GREATEST_RANK = 1200;
        private static final int ITEM_RANK = 999;
        private static final int MOST_OPEN = 100;
        private static final int MOST_TERMS = 8;

        private final Signs signs = new Signs();
        private final Tree tree = new Tree();

        int brokenPlace() {
            return signs.broken;
        }

        Tree parse(byte[] bytes, int length) {
            tree.start(bytes);
            signs.start(bytes, length);
            int first = signs.place;
            tree.root = term(GREATEST_RANK, 1);
            signs.mustBe(Sign.END);
            signs.advance();
            signs.mustBe(Sign.NOTHING);
            if (tree.symbols > MOST_SYMBOLS) {
                signs.breakAt(first);
            }
            return tree;
        }

        // Each term that is open costs two calls at most, so that 100 of them stay far below 300.
        private int term(int most, int open) {
            if (open > MOST_OPEN) {
                signs.breakHere();
            }
            if (signs.sign == Sign.OPEN) {
                return withInfixes(inParentheses(open), 0, most, open);
            }
            if (signs.sign == Sign.OPEN_LIST) {
                return withInfixes(list(open), 0, most, open);
            }
            if (signs.opensTerms()) {
                return withInfixes(compound(open), 0, most, open);
            }
            if (signs.sign != Sign.NAME || signs.isMinusOfInteger()) {
                return withInfixes(variableOrInteger(), 0, most, open);
            }
            Operator prefix = Operator.prefixAt(signs);
            int name = atom();
            if (prefix.rank > most || !signs.canBeginTerm()) {
                return withInfixes(name, 0, most, open);
            }
            tree.giveFirst(name, term(prefix.right, open + 1));
            return withInfixes(name, prefix.rank, most, open);
        }

        private int withInfixes(int first, int firstRank, int most, int open) {
            int left = first;
            int leftRank = firstRank;
            for (int i = 0; i < ROOM; i++) {
                Operator infix = Operator.infixAt(signs);
                if (infix.rank > most || leftRank > infix.left) {
                    return left;
                }
                int name = addSymbol(Tree.NAME);
                signs.advance();
                tree.giveFirst(name, left);
                tree.giveNext(left, term(infix.right, open + 1));
                left = name;
                leftRank = infix.rank;
            }
            return left;
        }

        private int inParentheses(int open) {
            signs.advance();
            int inner = term(GREATEST_RANK, open + 1);
            signs.mustBe(Sign.CLOSE);
            signs.advance();
            return inner;
        }

        private int compound(int open) {
            boolean dot = signs.textIs(".");
            int name = addSymbol(Tree.NAME);
            signs.advance();
            signs.mustBe(Sign.OPEN);
            signs.advance();
            int last = term(ITEM_RANK, open + 1);
            tree.giveFirst(name, last);
            int terms = 1;
            while (signs.sign == Sign.COMMA && terms <= MOST_TERMS) {
                signs.advance();
                terms++;
                if (terms > MOST_TERMS) {
                    signs.breakHere();
                }
                int following = term(ITEM_RANK, open + 1);
                tree.giveNext(last, following);
                last = following;
            }
            signs.mustBe(Sign.CLOSE);
            signs.advance();
            if (dot && terms == 2) {
                tree.kind[name] = Tree.PAIR;
            }
            return name;
        }

        private int list(int open) {
            int whole = addSymbol(Tree.PAIR);
            signs.advance();
            int item = term(ITEM_RANK, open + 1);
            tree.giveFirst(whole, item);
            for (int i = 0; i < ROOM && signs.sign == Sign.COMMA; i++) {
                int pair = addSymbol(Tree.PAIR);
                signs.advance();
                tree.giveNext(item, pair);
                item = term(ITEM_RANK, open + 1);
                tree.giveFirst(pair, item);
            }
            if (signs.sign == Sign.BAR) {
                signs.advance();
                tree.giveNext(item, term(ITEM_RANK, open + 1));
            } else {
                tree.giveNext(item, addSymbol(Tree.EMPTY_LIST));
            }
            signs.mustBe(Sign.CLOSE_LIST);
            signs.advance();
            return whole;
        }

        private int atom() {
            int name = addSymbol(signs.textIs("[]") ? Tree.EMPTY_LIST : Tree.NAME);
            signs.advance();
            return name;
        }

        private int addSymbol(int kind) {
            return tree.add(kind, signs.textFrom, signs.textTo);
        }

        private int variableOrInteger() {
            int node = NONE;
            if (signs.sign == Sign.VARIABLE) {
                node = tree.addVariable(signs.textFrom, signs.textTo);
            } else if (signs.sign == Sign.INTEGER) {
                node = addSymbol(Tree.INTEGER);
            } else if (signs.sign == Sign.NAME) {
                signs.advance();
                node = addSymbol(Tree.INTEGER_BELOW);
            } else {
                signs.breakHere();
            }
            signs.advance();
            return node;
        }
    }

    /** Prints a tree without recursion, as lists and sums are far deeper than what was open. */
    private static final class Printer {
        private static final int MOST_STEPS = 4 * MOST_SYMBOLS;

        private final int[] level = new int[MOST_SYMBOLS + 1];
        // A symbol waits as its number, what comes behind it as the complement of it.
        private final int[] waiting = new int[2 * MOST_SYMBOLS];
        private int waitingCount;
        private byte[] paper = new byte[0];
        // How long the print is, also where it has no room any more.
        int length;
        int nesting;

        void print(Tree tree, byte[] target) {
            paper = target;
            length = 0;
            nesting = 0;
            waitingCount = 0;
            push(tree.root);
            for (int step = 0; step < MOST_STEPS && waitingCount > 0; step++) {
                waitingCount--;
                int item = waiting[waitingCount];
                if (item >= 0) {
                    printSymbol(tree, item);
                } else {
                    printBehind(tree, ~item);
                }
            }
        }

        private void printSymbol(Tree tree, int node) {
            countLevel(tree, node);
            int kind = tree.kind[node];
            if (kind == Tree.PAIR) {
                put('[');
                enter(tree.child[node]);
            } else if (kind == Tree.NAME) {
                printName(tree, node);
                if (tree.child[node] != NONE) {
                    put('(');
                    enter(tree.child[node]);
                }
            } else {
                printLeaf(tree, node, kind);
            }
        }

        private void printLeaf(Tree tree, int node, int kind) {
            if (kind == Tree.VARIABLE) {
                put('_');
                putNumber(tree.number[node]);
            } else if (kind == Tree.EMPTY_LIST) {
                put('[');
                put(']');
            } else {
                if (kind == Tree.INTEGER_BELOW && tree.tape[tree.from[node]] != '0') {
                    put('-');
                }
                putText(tree, node);
            }
        }

        private void printBehind(Tree tree, int node) {
            int following = tree.next[node];
            boolean inList = tree.kind[tree.owner[node]] == Tree.PAIR;
            if (following == NONE) {
                put(inList ? ']' : ')');
            } else if (inList) {
                printTail(tree, following);
            } else {
                put(',');
                enter(following);
            }
        }

        private void printTail(Tree tree, int tail) {
            int kind = tree.kind[tail];
            if (kind == Tree.EMPTY_LIST) {
                put(']');
            } else if (kind == Tree.PAIR) {
                countLevel(tree, tail);
                put(',');
                enter(tree.child[tail]);
            } else {
                put('|');
                enter(tail);
            }
        }

        private void printName(Tree tree, int node) {
            boolean plain = isPlainName(tree.tape, tree.from[node], tree.to[node]);
            if (!plain) {
                put('\'');
            }
            // A quote within is still two on the tape, just as it is printed.
            putText(tree, node);
            if (!plain) {
                put('\'');
            }
        }

        private boolean isPlainName(byte[] tape, int from, int to) {
            int size = to - from;
            if (size == 0) {
                return false;
            }
            int first = tape[from];
            if (size == 1 && (first == '!' || first == ';')) {
                return true;
            }
            if (size == 2 && first == '[') {
                return tape[from + 1] == ']';
            }
            // A dot by itself could be taken for the end of the term.
            return !(size == 1 && first == '.') && isWordOrSymbols(tape, from, to);
        }

        private boolean isWordOrSymbols(byte[] tape, int from, int to) {
            boolean word = Signs.isSmall(tape[from]);
            for (int i = from; i < to; i++) {
                boolean fits = word ? Signs.isWordCharacter(tape[i]) : Signs.isSymbol(tape[i]);
                if (!fits) {
                    return false;
                }
            }
            return true;
        }

        private void countLevel(Tree tree, int node) {
            int owner = tree.owner[node];
            boolean compound = tree.child[node] != NONE;
            level[node] = (owner == NONE ? 0 : level[owner]) + (compound ? 1 : 0);
            nesting = Math.max(nesting, level[node]);
        }

        private void enter(int node) {
            push(~node);
            push(node);
        }

        private void push(int item) {
            if (waitingCount < waiting.length) {
                waiting[waitingCount] = item;
                waitingCount++;
            }
        }

        private void putText(Tree tree, int node) {
            for (int i = tree.from[node]; i < tree.to[node]; i++) {
                put(tree.tape[i]);
            }
        }

        private void putNumber(int number) {
            int unit = 1;
            while (unit <= MOST_SYMBOLS && number / unit >= 10) {
                unit *= 10;
            }
            for (int u = unit; u > 0; u /= 10) {
                put('0' + number / u % 10);
            }
        }

        private void put(int character) {
            if (length < paper.length) {
                paper[length] = (byte) character;
            }
            length++;
        }
    }
}
