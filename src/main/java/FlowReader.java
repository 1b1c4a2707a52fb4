import java.util.Arrays;

/**
 * Reads texts of a language of threads and variables that are bound once, and makes statements of
 * a kernel of them, where every value has a variable of its own.
 *
 * <p>A reading goes in three steps: the text becomes tokens, the tokens a tree, the tree the
 * kernel. All rows are made with the object and used again by every reading.
 */
public final class FlowReader {
    public static final int NONE = -1;
    public static final int FULL = -2;

    private static final int NO_ITEM = -2147483648;

    private final Text text;
    private final Names names;
    private final Tokens tokens;
    private final Parser parser;
    private final Kernel kernel;
    private final Builder builder;
    private int faultKind;
    private int faultPlace;
    private int faultLine;
    private int faultColumn;
    private int marks;

    public FlowReader() {
        text = new Text();
        names = new Names();
        tokens = new Tokens(text, names);
        kernel = new Kernel(names);
        Tree tree = new Tree();
        Scope scope = new Scope(names);
        parser = new Parser(tokens, names, tree, scope);
        builder = new Builder(tree, scope, kernel);
        forgetFault();
    }

    public int put(long eight) {
        return text.append(eight);
    }

    public int cut(int n) {
        return text.shorten(n);
    }

    public int read() {
        forgetFault();
        kernel.clear();
        tokens.scan();
        int program;
        try {
            program = parser.program();
        } catch (IllegalStateException refused) {
            keepFault();
            names.reset();
            return NONE;
        }
        marks = parser.marks();
        return builder.program(program);
    }

    public int fault(int what) {
        switch (what) {
            case 0:
                return faultKind;
            case 1:
                return faultPlace;
            case 2:
                return faultLine;
            case 3:
                return faultColumn;
            default:
                return NONE;
        }
    }

    public int count(int what) {
        switch (what) {
            case 0:
                return kernel.statements();
            case 1:
                return kernel.variables();
            case 2:
                return names.atoms();
            case 3:
                return text.length();
            default:
                return NONE;
        }
    }

    public int node(int s, int what) {
        return kernel.part(s, what);
    }

    public int item(int s, int i) {
        return kernel.itemOf(s, i);
    }

    public int atomByte(int t, int k) {
        return names.byteOf(names.entryOfAtom(t), k);
    }

    public int nameByte(int v, int k) {
        return names.byteOf(kernel.nameOf(v), k);
    }

    public int uses() {
        return marks;
    }

    private void forgetFault() {
        faultKind = 0;
        faultPlace = NONE;
        faultLine = NONE;
        faultColumn = NONE;
        marks = 0;
    }

    /** The line and column are kept, for the text may change before they are asked for. */
    private void keepFault() {
        faultKind = parser.trouble();
        faultPlace = parser.place();
        faultLine = text.line(faultPlace);
        faultColumn = text.column(faultPlace);
    }

    private static int at(int[] row, int i) {
        return i >= 0 && i < row.length ? row[i] : NONE;
    }

    private static void set(int[] row, int i, int value) {
        if (i >= 0 && i < row.length) {
            row[i] = value;
        }
    }

    /** The bytes that were put. */
    private static final class Text {
        private static final int MOST = 8192;

        private final byte[] bytes = new byte[MOST];
        private int length;

        int length() {
            return length;
        }

        /** Byte 0 stands in no text, so it tells that there is none. */
        int byteAt(int place) {
            return place >= 0 && place < length && place < bytes.length ? bytes[place] & 255 : 0;
        }

        int append(long eight) {
            int more = bytesIn(eight);
            if (length + more > MOST) {
                return FULL;
            }
            for (int i = 0; i < more; i++) {
                bytes[length + i] = (byte) (eight >>> (8 * i));
            }
            length += more;
            return length;
        }

        int shorten(int n) {
            if (n < 0 || n > length) {
                return NONE;
            }
            length = n;
            return n;
        }

        int line(int place) {
            int line = 1;
            for (int i = 0; i < place && i < length; i++) {
                if (byteAt(i) == 10) {
                    line++;
                }
            }
            return line;
        }

        int column(int place) {
            int before = -1;
            for (int i = 0; i < place && i < length; i++) {
                if (byteAt(i) == 10) {
                    before = i;
                }
            }
            return place - before;
        }

        private static int bytesIn(long eight) {
            for (int n = 0; n < 8; n++) {
                if (((eight >>> (8 * n)) & 255) == 0) {
                    return n;
                }
            }
            return 8;
        }
    }

    /**
     * The words, atoms and names of variables, each once: an entry. The fixed ones come first and
     * stay; the others go with reset.
     */
    private static final class Names {
        static final int LONGEST = 24;
        static final int BASIS = 7;
        static final int NIL = 2;
        static final int BAR = 3;
        static final int NO_MATCH = 4;

        private static final String WORD_TEXT =
                "skip local in end if then else case of do proc fun thread try catch raise show div mod";
        private static final String ATOM_TEXT =
                "true false nil | nomatch failure zero kind arity feature";
        private static final String BASIS_TEXT =
                "Wait Needed ByNeed NewCell Exchange NewPort Send";
        private static final int WORDS = 19;
        private static final int ATOMS = 10;
        private static final int FIXED = WORDS + ATOMS + BASIS;
        private static final int MOST = 400;
        /** One entry more than there can be, in which the next name is tried. */
        private static final int ROOM = WORDS + MOST + 1;

        private final byte[] bytes = new byte[ROOM * LONGEST];
        private final int[] lengths = new int[ROOM];
        private final int[] kinds = new int[ROOM];
        private final int[] atomNumbers = new int[ROOM];
        private final int[] hashes = new int[ROOM];
        private final int[] chain = new int[ROOM];
        private final int[] heads = new int[256];
        private final int[] atomEntries = new int[MOST];
        private int size;
        private int atoms;
        private int tried;

        Names() {
            Arrays.fill(heads, NONE);
            load(WORD_TEXT, Tokens.SKIP, 1);
            load(ATOM_TEXT, Tokens.ATOM, 0);
            load(BASIS_TEXT, Tokens.VARIABLE, 0);
        }

        void reset() {
            // The newest entry is the head of its chain, so they go from the last one on.
            for (int entry = size - 1; entry >= FIXED; entry--) {
                set(heads, at(hashes, entry), at(chain, entry));
            }
            size = FIXED;
            atoms = ATOMS;
            tried = 0;
        }

        void begin() {
            tried = 0;
        }

        void tryByte(int b) {
            int place = size * LONGEST + tried;
            if (tried < LONGEST && place < bytes.length) {
                bytes[place] = (byte) b;
                tried++;
            }
        }

        /** The entry of the name that was tried; NONE when there is no room for one more. */
        int settle(int kind) {
            int hash = hashOfTried();
            int entry = at(heads, hash);
            for (int i = 0; i < ROOM && entry != NONE; i++) {
                if (isTried(entry)) {
                    return entry;
                }
                entry = at(chain, entry);
            }
            return size - WORDS < MOST ? add(kind, hash) : NONE;
        }

        int kindOf(int entry) {
            return at(kinds, entry);
        }

        int atomOf(int entry) {
            return at(atomNumbers, entry);
        }

        int atoms() {
            return atoms;
        }

        int entryOfAtom(int atom) {
            return atom >= 0 && atom < atoms && atom < MOST ? atomEntries[atom] : NONE;
        }

        int entryOfBasis(int i) {
            return WORDS + ATOMS + i;
        }

        int lengthOf(int entry) {
            return entry >= 0 && entry < size && entry < ROOM ? lengths[entry] : 0;
        }

        int byteOf(int entry, int k) {
            if (entry < 0 || entry >= size || entry >= ROOM || k < 0 || k >= lengths[entry]) {
                return NONE;
            }
            int place = entry * LONGEST + k;
            return place < bytes.length ? bytes[place] & 255 : NONE;
        }

        /** Below 0 when atom t is before atom u by their bytes. */
        int compareAtoms(int t, int u) {
            int one = entryOfAtom(t);
            int other = entryOfAtom(u);
            for (int k = 0; k < LONGEST; k++) {
                // Behind the last byte is NONE, so the shorter of two alike is before.
                int difference = byteOf(one, k) - byteOf(other, k);
                if (difference != 0) {
                    return difference;
                }
            }
            return 0;
        }

        private void load(String line, int kind, int step) {
            int next = kind;
            begin();
            for (int i = 0; i <= line.length(); i++) {
                char c = i < line.length() ? line.charAt(i) : ' ';
                if (c == ' ') {
                    settle(next);
                    next += step;
                    begin();
                } else {
                    tryByte(c);
                }
            }
        }

        private int add(int kind, int hash) {
            int entry = size;
            set(lengths, entry, tried);
            set(kinds, entry, kind);
            set(hashes, entry, hash);
            set(chain, entry, at(heads, hash));
            set(heads, hash, entry);
            set(atomNumbers, entry, NONE);
            if (kind == Tokens.ATOM) {
                set(atomNumbers, entry, atoms);
                set(atomEntries, atoms, entry);
                atoms++;
            }
            size++;
            return entry;
        }

        private int hashOfTried() {
            int hash = tried;
            int first = size * LONGEST;
            for (int k = 0; k < tried && first + k < bytes.length; k++) {
                hash = hash * 31 + bytes[first + k];
            }
            return hash & (heads.length - 1);
        }

        private boolean isTried(int entry) {
            if (lengthOf(entry) != tried) {
                return false;
            }
            int mine = entry * LONGEST;
            int its = size * LONGEST;
            for (int k = 0; k < tried && its + k < bytes.length; k++) {
                if (bytes[mine + k] != bytes[its + k]) {
                    return false;
                }
            }
            return true;
        }
    }

    /**
     * The tokens of the text up to the first faulty one, which keeps its kind, because the parser
     * looks one token ahead.
     */
    private static final class Tokens {
        static final int MOST = 1500;

        static final int END = 0;
        static final int ATOM = 1;
        static final int VARIABLE = 2;
        static final int ANY = 3;
        static final int INTEGER = 4;
        static final int OPEN = 5;
        static final int CLOSE = 6;
        static final int OPEN_BRACE = 7;
        static final int CLOSE_BRACE = 8;
        static final int OPEN_SQUARE = 9;
        static final int CLOSE_SQUARE = 10;
        static final int COLON = 11;
        static final int IS = 12;
        static final int LESS = 13;
        static final int PLUS = 14;
        static final int MINUS = 15;
        static final int TIMES = 16;
        static final int DOT = 17;
        static final int BAR = 18;
        static final int EQUAL = 19;
        static final int AT_MOST = 20;
        static final int SKIP = 21;
        static final int LOCAL = 22;
        static final int IN = 23;
        static final int END_WORD = 24;
        static final int IF = 25;
        static final int THEN = 26;
        static final int ELSE = 27;
        static final int CASE = 28;
        static final int OF = 29;
        static final int DO = 30;
        static final int PROC = 31;
        static final int FUN = 32;
        static final int THREAD = 33;
        static final int TRY = 34;
        static final int CATCH = 35;
        static final int RAISE = 36;
        static final int SHOW = 37;
        static final int DIV = 38;
        static final int MOD = 39;

        private static final int NO_TOKEN = 1;
        private static final int TOO_LONG = 2;
        private static final int TOO_LARGE = 3;
        private static final int LETTER_BEHIND = 4;
        private static final int TOO_MANY = 5;

        /** In the order of their kinds, from OPEN on. */
        private static final String SIGNS = "(){}[]:=<+-*.|";
        private static final long LEAST = -2147483648L;
        private static final long GREATEST = 2147483647L;
        /** Far above what an integer may be, far below what a long may be. */
        private static final long HUGE = 1L << 40;

        private final Text text;
        private final Names names;
        private final int[] kinds = new int[MOST + 2];
        private final int[] starts = new int[MOST + 2];
        private final int[] values = new int[MOST + 2];
        private int size;
        private int bad;
        private int trouble;
        private int end;

        Tokens(Text text, Names names) {
            this.text = text;
            this.names = names;
        }

        void scan() {
            names.reset();
            size = 0;
            trouble = 0;
            bad = NONE;
            int place = pastBlanks(0);
            for (int i = 0; i <= MOST && place < text.length(); i++) {
                one(place);
                if (trouble == 0 && size > MOST) {
                    trouble = TOO_MANY;
                }
                if (trouble != 0) {
                    bad = size - 1;
                    return;
                }
                place = pastBlanks(end);
            }
            add(END, text.length(), NONE);
        }

        int kind(int i) {
            return i >= 0 && i < size && i < kinds.length ? kinds[i] : END;
        }

        int start(int i) {
            return i >= 0 && i < size && i < starts.length ? starts[i] : text.length();
        }

        /** An INTEGER's own, an ATOM's number, a VARIABLE's entry. */
        int value(int i) {
            return i >= 0 && i < size && i < values.length ? values[i] : NONE;
        }

        /** The fault of token i, 0 for none. */
        int troubleAt(int i) {
            return i == bad ? trouble : 0;
        }

        private void one(int place) {
            int first = text.byteAt(place);
            end = place + 1;
            if (first >= 'a' && first <= 'z') {
                name(place, ATOM);
            } else if (first >= 'A' && first <= 'Z') {
                name(place, VARIABLE);
            } else if (first == '_') {
                trouble = isNamePart(text.byteAt(end)) ? NO_TOKEN : 0;
                add(ANY, place, NONE);
            } else if (isDigit(first) || first == '~') {
                integer(place);
            } else {
                sign(place);
            }
        }

        private void name(int place, int kind) {
            end = pastName(place);
            if (end - place > Names.LONGEST) {
                trouble = TOO_LONG;
                add(kind, place, NONE);
                return;
            }
            names.begin();
            for (int i = place; i < end; i++) {
                names.tryByte(text.byteAt(i));
            }
            int entry = names.settle(kind);
            if (entry == NONE) {
                trouble = TOO_MANY;
                add(kind, place, NONE);
            } else {
                add(names.kindOf(entry), place, kind == ATOM ? names.atomOf(entry) : entry);
            }
        }

        private void integer(int place) {
            boolean minus = text.byteAt(place) == '~';
            int from = minus ? place + 1 : place;
            long sum = 0;
            int i = from;
            for (; i < text.length() && isDigit(text.byteAt(i)); i++) {
                sum = Math.min(HUGE, sum * 10 + text.byteAt(i) - '0');
            }
            end = i;
            long value = minus ? -sum : sum;
            if (i == from) {
                trouble = NO_TOKEN;
            } else if (isNamePart(text.byteAt(i))) {
                trouble = LETTER_BEHIND;
            } else if (value < LEAST || value > GREATEST) {
                trouble = TOO_LARGE;
            }
            add(INTEGER, place, (int) value);
        }

        private void sign(int place) {
            int first = text.byteAt(place);
            int second = text.byteAt(place + 1);
            int index = SIGNS.indexOf((char) first);
            if (index < 0) {
                trouble = NO_TOKEN;
                add(END, place, NONE);
            } else if (first == '=' && (second == '=' || second == '<')) {
                end = place + 2;
                add(second == '=' ? EQUAL : AT_MOST, place, NONE);
            } else {
                add(OPEN + index, place, NONE);
            }
        }

        private void add(int kind, int place, int value) {
            set(kinds, size, kind);
            set(starts, size, place);
            set(values, size, value);
            size++;
        }

        private int pastBlanks(int from) {
            boolean remark = false;
            for (int i = from; i < text.length(); i++) {
                int b = text.byteAt(i);
                if (remark) {
                    remark = b != 10;
                } else if (b == '%') {
                    remark = true;
                } else if (b != 9 && b != 10 && b != 13 && b != 32) {
                    return i;
                }
            }
            return text.length();
        }

        private int pastName(int from) {
            for (int i = from; i < text.length(); i++) {
                if (!isNamePart(text.byteAt(i))) {
                    return i;
                }
            }
            return text.length();
        }

        private static boolean isDigit(int b) {
            return b >= '0' && b <= '9';
        }

        private static boolean isNamePart(int b) {
            return b >= 'a' && b <= 'z' || b >= 'A' && b <= 'Z' || isDigit(b) || b == '_';
        }
    }

    /**
     * What the parser makes and the builder uses up. A node's a, b, c by its kind; NONE where it
     * has none. Nodes of one row (items, arguments, fields, slots, branches) stand in a chain.
     */
    private static final class Tree {
        /** a its binding. */
        static final int VARIABLE = 1;
        static final int ANY = 2;
        /** a the integer. */
        static final int NUMBER = 3;
        /** a the atom. */
        static final int ATOM = 4;
        /** a the label, b the first FIELD. */
        static final int RECORD = 5;
        /** a the feature, b the exp. */
        static final int FIELD = 6;
        /** a | b. */
        static final int PAIR = 7;
        /** a op b, c the operation. */
        static final int OPERATE = 8;
        /** a . feature b. */
        static final int SELECT = 9;
        /** a the first exp of a chain. */
        static final int APPLY = 10;
        /** a the first of c bindings, b the BODY. */
        static final int PROCEDURE = 11;
        static final int FUNCTION = 12;
        static final int LOCAL = 13;
        /** a the exp, b and c the BODYs. */
        static final int IF = 14;
        /** a the exp, b the first BRANCH, c the BODY of else. */
        static final int CASE = 15;
        /** a the PATTERN, b the BODY, later its first statement, c later the BRANCH before. */
        static final int BRANCH = 16;
        /** a 0 integer, 1 atom, 2 record, b the integer, atom or label, c the first SLOT. */
        static final int PATTERN = 17;
        /** a the feature, b the binding. */
        static final int SLOT = 18;
        /** a the BODY. */
        static final int THREAD = 19;
        /** a the BODY, b that of catch, c its binding. */
        static final int TRY = 20;
        /** a the exp. */
        static final int RAISE = 21;
        static final int SHOW = 22;
        /** a = b. */
        static final int UNIFY = 23;
        static final int SKIP = 24;
        /** a the first item, b the exp behind them: of a body the one, of a value both. */
        static final int BODY = 25;

        /** No token makes more than two nodes: in a list an element and its pair. */
        private static final int MOST = 2 * Tokens.MOST + 16;

        private final int[] kinds = new int[MOST];
        private final int[] as = new int[MOST];
        private final int[] bs = new int[MOST];
        private final int[] cs = new int[MOST];
        private final int[] nexts = new int[MOST];
        private final int[] variables = new int[MOST];
        private int size;

        void clear() {
            size = 0;
        }

        int make(int kind, int a, int b, int c) {
            if (size >= MOST) {
                return NONE;
            }
            int node = size;
            set(kinds, node, kind);
            set(as, node, a);
            set(bs, node, b);
            set(cs, node, c);
            set(nexts, node, NONE);
            set(variables, node, NONE);
            size++;
            return node;
        }

        int kind(int node) {
            return at(kinds, node);
        }

        int a(int node) {
            return at(as, node);
        }

        int b(int node) {
            return at(bs, node);
        }

        int c(int node) {
            return at(cs, node);
        }

        int next(int node) {
            return at(nexts, node);
        }

        /** The variable that an exp goes into, once the builder has told it. */
        int variable(int node) {
            return at(variables, node);
        }

        /** Whether one of a chain of FIELDs or SLOTs has the feature. */
        boolean has(int first, int feature) {
            int node = first;
            for (int i = 0; i < MOST && node != NONE; i++) {
                if (at(as, node) == feature) {
                    return true;
                }
                node = at(nexts, node);
            }
            return false;
        }

        void setB(int node, int b) {
            set(bs, node, b);
        }

        void setC(int node, int c) {
            set(cs, node, c);
        }

        /** Puts a node behind the last one of a chain, which may have none yet: the node. */
        int chain(int last, int node) {
            set(nexts, last, node);
            return node;
        }

        void setVariable(int node, int variable) {
            set(variables, node, variable);
        }
    }

    /** What each VARIABLE of the text means: bindings, the first of which are the basis. */
    private static final class Scope {
        private static final int MOST = Names.BASIS + Tokens.MOST + 1;

        private final Names names;
        private final int[] entries = new int[MOST];
        private final int[] hidden = new int[MOST];
        private final int[] variables = new int[MOST];
        private final int[] newest = new int[Names.ROOM];
        private int size;

        Scope(Names names) {
            this.names = names;
        }

        void clear() {
            size = 0;
            Arrays.fill(newest, NONE);
            for (int i = 0; i < Names.BASIS; i++) {
                setVariable(bind(names.entryOfBasis(i)), i);
            }
        }

        /** The binding that the next bind makes. */
        int next() {
            return size;
        }

        int bind(int entry) {
            if (size >= MOST || entry < 0 || entry >= newest.length) {
                return NONE;
            }
            int binding = size;
            entries[binding] = entry;
            hidden[binding] = newest[entry];
            variables[binding] = NONE;
            newest[entry] = binding;
            size++;
            return binding;
        }

        /** What a name means here; NONE when nothing around binds it. */
        int meaning(int entry) {
            return entry >= 0 && entry < newest.length ? newest[entry] : NONE;
        }

        /** Ends the bindings from first on up to the one before end, which were the newest. */
        void leave(int first, int end) {
            for (int binding = end - 1; binding >= first; binding--) {
                set(newest, at(entries, binding), at(hidden, binding));
            }
        }

        int entry(int binding) {
            return at(entries, binding);
        }

        int variable(int binding) {
            return at(variables, binding);
        }

        void setVariable(int binding, int variable) {
            set(variables, binding, variable);
        }
    }

    /** Makes the tree of the tokens, or finds the first fault, at which it throws. */
    private static final class Parser {
        private static final int DEEPEST = 24;
        private static final int WIDEST = 32;

        private static final int SYNTAX = 10;
        private static final int MISPLACED = 1;
        private static final int FEATURE_TWICE = 2;
        private static final int UNBOUND = 3;
        private static final int BOUND_TWICE = 4;
        private static final int TOO_DEEP = 5;
        private static final int TOO_WIDE = 6;
        private static final int NO_FEATURE = 7;

        private static final int FIRST_CELL_BASIS = 3;
        private static final int USES_CELLS = 1;
        private static final int USES_TRY = 2;

        private final Tokens tokens;
        private final Names names;
        private final Tree tree;
        private final Scope scope;
        private int token;
        private int kindHere;
        private int valueHere;
        private int depth;
        private int marks;
        private int trouble;

        Parser(Tokens tokens, Names names, Tree tree, Scope scope) {
            this.tokens = tokens;
            this.names = names;
            this.tree = tree;
            this.scope = scope;
        }

        int program() {
            token = NONE;
            depth = 0;
            marks = 0;
            trouble = 0;
            tree.clear();
            scope.clear();
            advance();
            int body = block(false);
            return kindHere == Tokens.END ? body : fail(MISPLACED);
        }

        int marks() {
            return marks;
        }

        int trouble() {
            return trouble;
        }

        /** Where in the text the fault is. */
        int place() {
            return tokens.start(token);
        }

        /** Has an answer for its callers' sake alone: a fault ends the reading. */
        private int fail(int fault) {
            trouble = SYNTAX + fault;
            throw new IllegalStateException();
        }

        private void advance() {
            token++;
            trouble = tokens.troubleAt(token);
            if (trouble != 0) {
                throw new IllegalStateException();
            }
            kindHere = tokens.kind(token);
            valueHere = tokens.value(token);
        }

        private void need(int kind) {
            if (kindHere != kind) {
                fail(MISPLACED);
            }
            advance();
        }

        private void open() {
            if (depth >= DEEPEST) {
                fail(TOO_DEEP);
            }
            depth++;
            advance();
        }

        private void close(int kind) {
            if (kindHere != kind) {
                fail(MISPLACED);
            }
            depth--;
            advance();
        }

        /** A body, or a value. */
        private int block(boolean valued) {
            if (valued && kindHere != Tokens.DO) {
                return tree.make(Tree.BODY, NONE, exp(), NONE);
            }
            if (valued) {
                open();
            }
            int first = oneItem();
            int last = first;
            for (int i = 0; i < Tokens.MOST && beginsItem(kindHere); i++) {
                last = tree.chain(last, oneItem());
            }
            if (!valued) {
                return tree.make(Tree.BODY, first, NONE, NONE);
            }
            close(Tokens.IN);
            return tree.make(Tree.BODY, first, exp(), NONE);
        }

        private int oneItem() {
            switch (kindHere) {
                case Tokens.SKIP:
                    return leaf(Tree.SKIP, NONE);
                case Tokens.LOCAL:
                    return local(false);
                case Tokens.IF:
                    return choice(false);
                case Tokens.CASE:
                    return cases(false);
                case Tokens.THREAD:
                    return thread(false);
                case Tokens.TRY:
                    return attempt();
                case Tokens.RAISE:
                    advance();
                    return tree.make(Tree.RAISE, exp(), NONE, NONE);
                case Tokens.SHOW:
                    advance();
                    return tree.make(Tree.SHOW, exp(), NONE, NONE);
                default:
                    break;
            }
            boolean braced = kindHere == Tokens.OPEN_BRACE;
            int left = exp();
            if (kindHere == Tokens.IS) {
                advance();
                return tree.make(Tree.UNIFY, left, exp(), NONE);
            }
            return braced && tree.kind(left) == Tree.APPLY ? left : fail(MISPLACED);
        }

        private int exp() {
            int first = compared();
            if (kindHere != Tokens.BAR) {
                return first;
            }
            int whole = tree.make(Tree.PAIR, first, NONE, NONE);
            int pair = whole;
            for (int i = 0; i < Tokens.MOST && kindHere == Tokens.BAR; i++) {
                advance();
                int right = compared();
                if (kindHere == Tokens.BAR) {
                    right = tree.make(Tree.PAIR, right, NONE, NONE);
                }
                tree.setB(pair, right);
                pair = right;
            }
            return whole;
        }

        /** A compared with its sums and products, in one method to keep the open calls few. */
        private int compared() {
            int left = NONE;
            int comparison = NONE;
            int sum = NONE;
            int addition = NONE;
            int product = part();
            for (int i = 0; i < Tokens.MOST; i++) {
                int operation = operation(kindHere);
                if (isProduct(operation)) {
                    advance();
                    product = tree.make(Tree.OPERATE, product, part(), operation);
                    continue;
                }
                sum = addition == NONE ? product : tree.make(Tree.OPERATE, sum, product, addition);
                if (isSum(operation)) {
                    addition = operation;
                } else if (operation != NONE && left == NONE) {
                    left = sum;
                    comparison = operation;
                    addition = NONE;
                } else {
                    break;
                }
                advance();
                product = part();
            }
            return left == NONE ? sum : tree.make(Tree.OPERATE, left, sum, comparison);
        }

        private int part() {
            int part = atomic();
            for (int i = 0; i < Tokens.MOST && kindHere == Tokens.DOT; i++) {
                advance();
                part = tree.make(Tree.SELECT, part, feature(NONE, 1), NONE);
                advance();
            }
            return part;
        }

        private int atomic() {
            switch (kindHere) {
                case Tokens.INTEGER:
                    return leaf(Tree.NUMBER, valueHere);
                case Tokens.ATOM:
                    return bracketIsNext() ? record() : leaf(Tree.ATOM, valueHere);
                case Tokens.VARIABLE:
                    return leaf(Tree.VARIABLE, meaning());
                case Tokens.ANY:
                    return leaf(Tree.ANY, NONE);
                case Tokens.OPEN:
                    open();
                    int inner = exp();
                    close(Tokens.CLOSE);
                    return inner;
                case Tokens.OPEN_SQUARE:
                    return list();
                case Tokens.OPEN_BRACE:
                    return apply();
                case Tokens.PROC:
                case Tokens.FUN:
                    return procedure(kindHere == Tokens.FUN);
                case Tokens.LOCAL:
                    return local(true);
                case Tokens.IF:
                    return choice(true);
                case Tokens.CASE:
                    return cases(true);
                case Tokens.THREAD:
                    return thread(true);
                default:
                    return fail(MISPLACED);
            }
        }

        private int leaf(int kind, int a) {
            advance();
            return tree.make(kind, a, NONE, NONE);
        }

        private int meaning() {
            int binding = scope.meaning(valueHere);
            if (binding == NONE) {
                fail(UNBOUND);
            }
            if (binding >= FIRST_CELL_BASIS && binding < Names.BASIS) {
                marks |= USES_CELLS;
            }
            return binding;
        }

        private boolean bracketIsNext() {
            int length = names.lengthOf(names.entryOfAtom(valueHere));
            return tokens.kind(token + 1) == Tokens.OPEN
                    && tokens.start(token + 1) == tokens.start(token) + length;
        }

        private int record() {
            int label = valueHere;
            advance();
            open();
            int first = NONE;
            if (kindHere != Tokens.CLOSE) {
                first = isFeature(kindHere) && tokens.kind(token + 1) == Tokens.COLON
                        ? featuredFields() : fields();
            }
            close(Tokens.CLOSE);
            return first == NONE
                    ? tree.make(Tree.ATOM, label, NONE, NONE)
                    : tree.make(Tree.RECORD, label, first, NONE);
        }

        private int fields() {
            int first = NONE;
            int last = NONE;
            for (int n = 1; n <= WIDEST + 1 && kindHere != Tokens.CLOSE; n++) {
                if (n > WIDEST) {
                    refuseExp();
                }
                last = tree.chain(last, tree.make(Tree.FIELD, n, exp(), NONE));
                first = first == NONE ? last : first;
            }
            return first;
        }

        private int featuredFields() {
            int first = NONE;
            int last = NONE;
            for (int n = 1; n <= WIDEST + 1 && kindHere != Tokens.CLOSE; n++) {
                int feature = feature(first, n);
                advance();
                need(Tokens.COLON);
                last = tree.chain(last, tree.make(Tree.FIELD, feature, exp(), NONE));
                first = first == NONE ? last : first;
            }
            return first;
        }

        /** The feature at this token, the nth behind the chain of those that begins with first. */
        private int feature(int first, int n) {
            if (!isFeature(kindHere)) {
                fail(MISPLACED);
            }
            boolean integer = kindHere == Tokens.INTEGER;
            int feature = integer ? valueHere : -1 - valueHere;
            // An INTEGER below 1 looks like an atom's feature, but no record has that one.
            boolean wrong = integer && (feature < 1 || feature > WIDEST);
            if (!wrong && tree.has(first, feature)) {
                fail(FEATURE_TWICE);
            }
            if (n > WIDEST) {
                fail(TOO_WIDE);
            }
            return wrong ? fail(NO_FEATURE) : feature;
        }

        /** One exp too many: at its first token what is told before that comes first. */
        private void refuseExp() {
            if (!beginsExp(kindHere)) {
                fail(MISPLACED);
            }
            if (kindHere == Tokens.VARIABLE) {
                meaning();
            }
            if (depth >= DEEPEST && opens(kindHere)) {
                fail(TOO_DEEP);
            }
            fail(TOO_WIDE);
        }

        /** [E F ..] is E | F | .. | nil. */
        private int list() {
            open();
            int first = NONE;
            int last = NONE;
            for (int i = 0; i < Tokens.MOST && kindHere != Tokens.CLOSE_SQUARE; i++) {
                int pair = tree.make(Tree.PAIR, exp(), NONE, NONE);
                tree.setB(last, pair);
                last = pair;
                first = first == NONE ? pair : first;
            }
            close(Tokens.CLOSE_SQUARE);
            int nil = tree.make(Tree.ATOM, Names.NIL, NONE, NONE);
            tree.setB(last, nil);
            return first == NONE ? nil : first;
        }

        private int apply() {
            open();
            int first = exp();
            int last = first;
            for (int n = 1; n <= WIDEST + 1 && kindHere != Tokens.CLOSE_BRACE; n++) {
                if (n > WIDEST) {
                    refuseExp();
                }
                last = tree.chain(last, exp());
            }
            close(Tokens.CLOSE_BRACE);
            return tree.make(Tree.APPLY, first, NONE, NONE);
        }

        private int procedure(boolean valued) {
            open();
            if (kindHere != Tokens.OPEN_BRACE) {
                fail(MISPLACED);
            }
            open();
            int first = scope.next();
            int end = variables();
            close(Tokens.CLOSE_BRACE);
            int body = block(valued);
            scope.leave(first, end);
            close(Tokens.END_WORD);
            return tree.make(valued ? Tree.FUNCTION : Tree.PROCEDURE, first, body, end - first);
        }

        private int local(boolean valued) {
            open();
            int first = scope.next();
            if (kindHere != Tokens.VARIABLE) {
                fail(MISPLACED);
            }
            int end = variables();
            need(Tokens.IN);
            int body = block(valued);
            scope.leave(first, end);
            close(Tokens.END_WORD);
            return tree.make(Tree.LOCAL, first, body, end - first);
        }

        /** Binds a row of VARIABLEs: the binding behind theirs. */
        private int variables() {
            int first = scope.next();
            for (int n = 1; n <= WIDEST + 1 && kindHere == Tokens.VARIABLE; n++) {
                bind(first, n);
                advance();
            }
            return scope.next();
        }

        /** Binds the VARIABLE here, the nth of a row whose bindings begin with first. */
        private int bind(int first, int n) {
            if (scope.meaning(valueHere) >= first) {
                fail(BOUND_TWICE);
            }
            return n > WIDEST ? fail(TOO_WIDE) : scope.bind(valueHere);
        }

        private int choice(boolean valued) {
            open();
            int condition = exp();
            need(Tokens.THEN);
            int then = block(valued);
            if (valued && kindHere != Tokens.ELSE) {
                fail(MISPLACED);
            }
            int otherwise = otherwise(valued);
            close(Tokens.END_WORD);
            return tree.make(Tree.IF, condition, then, otherwise);
        }

        private int otherwise(boolean valued) {
            if (kindHere != Tokens.ELSE) {
                return NONE;
            }
            advance();
            return block(valued);
        }

        private int cases(boolean valued) {
            open();
            int subject = exp();
            if (kindHere != Tokens.OF) {
                fail(MISPLACED);
            }
            int first = NONE;
            int last = NONE;
            for (int i = 0; i < Tokens.MOST && kindHere == Tokens.OF; i++) {
                advance();
                int bindings = scope.next();
                int pattern = pattern();
                int end = scope.next();
                need(Tokens.THEN);
                last = tree.chain(last, tree.make(Tree.BRANCH, pattern, block(valued), NONE));
                first = first == NONE ? last : first;
                scope.leave(bindings, end);
            }
            int otherwise = otherwise(valued);
            close(Tokens.END_WORD);
            return tree.make(Tree.CASE, subject, first, otherwise);
        }

        private int pattern() {
            int value = valueHere;
            switch (kindHere) {
                case Tokens.INTEGER:
                    advance();
                    return tree.make(Tree.PATTERN, 0, value, NONE);
                case Tokens.ATOM:
                    advance();
                    return kindHere == Tokens.OPEN
                            ? tree.make(Tree.PATTERN, 2, value, slots())
                            : tree.make(Tree.PATTERN, 1, value, NONE);
                case Tokens.VARIABLE:
                case Tokens.ANY:
                    int bindings = scope.next();
                    int first = slot(bindings, 1, 1);
                    need(Tokens.BAR);
                    tree.chain(first, slot(bindings, 2, 2));
                    return tree.make(Tree.PATTERN, 2, Names.BAR, first);
                default:
                    return fail(MISPLACED);
            }
        }

        private int slots() {
            open();
            boolean featured = isFeature(kindHere);
            int bindings = scope.next();
            int first = NONE;
            int last = NONE;
            for (int n = 1; n <= WIDEST + 1 && kindHere != Tokens.CLOSE; n++) {
                int feature = n;
                if (featured) {
                    feature = feature(first, n);
                    advance();
                    need(Tokens.COLON);
                }
                last = tree.chain(last, slot(bindings, feature, n));
                first = first == NONE ? last : first;
            }
            close(Tokens.CLOSE);
            return first;
        }

        private int slot(int bindings, int feature, int n) {
            int binding = NONE;
            if (kindHere == Tokens.VARIABLE) {
                binding = bind(bindings, n);
            } else if (kindHere != Tokens.ANY) {
                fail(MISPLACED);
            } else if (n > WIDEST) {
                fail(TOO_WIDE);
            }
            advance();
            return tree.make(Tree.SLOT, feature, binding, NONE);
        }

        private int thread(boolean valued) {
            open();
            int body = block(valued);
            close(Tokens.END_WORD);
            return tree.make(Tree.THREAD, body, NONE, NONE);
        }

        private int attempt() {
            marks |= USES_TRY;
            open();
            int body = block(false);
            need(Tokens.CATCH);
            if (kindHere != Tokens.VARIABLE) {
                fail(MISPLACED);
            }
            int caught = bind(scope.next(), 1);
            advance();
            need(Tokens.THEN);
            int then = block(false);
            scope.leave(caught, caught + 1);
            close(Tokens.END_WORD);
            return tree.make(Tree.TRY, body, then, caught);
        }

        private static boolean isFeature(int kind) {
            return kind == Tokens.ATOM || kind == Tokens.INTEGER;
        }

        private static boolean beginsItem(int kind) {
            return kind == Tokens.SKIP || kind == Tokens.TRY || kind == Tokens.RAISE
                    || kind == Tokens.SHOW || beginsExp(kind);
        }

        private static boolean beginsExp(int kind) {
            return isFeature(kind) || kind == Tokens.VARIABLE || kind == Tokens.ANY || opens(kind);
        }

        /** Whether an exp can begin with it and it counts for the depth. */
        private static boolean opens(int kind) {
            switch (kind) {
                case Tokens.OPEN:
                case Tokens.OPEN_BRACE:
                case Tokens.OPEN_SQUARE:
                case Tokens.LOCAL:
                case Tokens.IF:
                case Tokens.CASE:
                case Tokens.PROC:
                case Tokens.FUN:
                case Tokens.THREAD:
                    return true;
                default:
                    return false;
            }
        }

        /** As the kernel numbers them, == behind the others; NONE for another token. */
        private static int operation(int kind) {
            switch (kind) {
                case Tokens.PLUS:
                    return 0;
                case Tokens.MINUS:
                    return 1;
                case Tokens.TIMES:
                    return 2;
                case Tokens.DIV:
                    return 3;
                case Tokens.MOD:
                    return 4;
                case Tokens.LESS:
                    return 5;
                case Tokens.AT_MOST:
                    return 6;
                case Tokens.EQUAL:
                    return Kernel.EQUALITY;
                default:
                    return NONE;
            }
        }

        private static boolean isSum(int operation) {
            return operation == 0 || operation == 1;
        }

        private static boolean isProduct(int operation) {
            return operation >= 2 && operation <= 4;
        }
    }

    /** The statements and variables. */
    private static final class Kernel {
        static final int SKIP = 1;
        static final int LOCAL = 2;
        static final int SAME = 3;
        static final int NUMBER = 4;
        static final int ATOM = 5;
        static final int RECORD = 6;
        static final int PROCEDURE = 7;
        static final int OPERATE = 8;
        static final int EQUAL = 9;
        static final int SELECT = 10;
        static final int IF = 11;
        static final int CASE = 12;
        static final int APPLY = 13;
        static final int THREAD = 14;
        static final int TRY = 15;
        static final int RAISE = 16;
        static final int SHOW = 17;

        /** Behind the operations of OPERATE: it makes an EQUAL. */
        static final int EQUALITY = 7;

        /** No token makes more than two of each: in a list an element and its pair. */
        static final int MOST_VARIABLES = Names.BASIS + 2 * Tokens.MOST + 100;
        private static final int MOST = 2 * Tokens.MOST + 200;
        /** A list's element makes four of a record and two of the LOCAL around it. */
        private static final int MOST_ITEMS = 6 * Tokens.MOST + 1000;

        private final Names names;
        private final int[] kinds = new int[MOST];
        private final int[] xs = new int[MOST];
        private final int[] as = new int[MOST];
        private final int[] bs = new int[MOST];
        private final int[] nexts = new int[MOST];
        private final int[] itemStarts = new int[MOST];
        private final int[] itemCounts = new int[MOST];
        private final int[] items = new int[MOST_ITEMS];
        private final int[] variableNames = new int[MOST_VARIABLES];
        private int size;
        private int itemSize;
        private int variables;

        Kernel(Names names) {
            this.names = names;
            clear();
        }

        void clear() {
            size = 0;
            itemSize = 0;
            variables = 0;
            for (int i = 0; i < Names.BASIS; i++) {
                makeVariable(names.entryOfBasis(i));
            }
        }

        int statements() {
            return size;
        }

        int variables() {
            return variables;
        }

        int makeVariable(int name) {
            if (variables >= MOST_VARIABLES) {
                return NONE;
            }
            int variable = variables;
            set(variableNames, variable, name);
            variables++;
            return variable;
        }

        int nameOf(int variable) {
            return variable >= 0 && variable < variables ? at(variableNames, variable) : NONE;
        }

        int make(int kind, int x, int a, int b) {
            if (size >= MOST) {
                return NONE;
            }
            int statement = size;
            set(kinds, statement, kind);
            set(xs, statement, x);
            set(as, statement, a);
            set(bs, statement, b);
            set(nexts, statement, NONE);
            set(itemStarts, statement, itemSize);
            set(itemCounts, statement, 0);
            size++;
            return statement;
        }

        /** Puts an item behind those of the newest statement. */
        void add(int item) {
            if (itemSize < MOST_ITEMS) {
                set(items, itemSize, item);
                itemSize++;
                set(itemCounts, size - 1, at(itemCounts, size - 1) + 1);
            }
        }

        void addPair(int feature, int variable) {
            add(feature);
            add(variable);
        }

        /** Orders the newest statement's pairs of feature and variable, from item skipped on. */
        void sortPairs(int skipped) {
            int from = at(itemStarts, size - 1) + skipped;
            for (int i = from + 2; i + 1 < itemSize; i += 2) {
                int feature = at(items, i);
                int variable = at(items, i + 1);
                int j = i;
                for (; j > from && isBefore(feature, at(items, j - 2)); j -= 2) {
                    set(items, j, at(items, j - 2));
                    set(items, j + 1, at(items, j - 1));
                }
                set(items, j, feature);
                set(items, j + 1, variable);
            }
        }

        void link(int statement, int behind) {
            set(nexts, statement, behind);
        }

        int next(int statement) {
            return at(nexts, statement);
        }

        int part(int statement, int what) {
            if (statement < 0 || statement >= size) {
                return NONE;
            }
            switch (what) {
                case 0:
                    return at(kinds, statement);
                case 1:
                    return at(xs, statement);
                case 2:
                    return at(as, statement);
                case 3:
                    return at(bs, statement);
                case 4:
                    return at(nexts, statement);
                case 5:
                    return at(itemCounts, statement);
                default:
                    return NONE;
            }
        }

        int itemOf(int statement, int i) {
            if (statement < 0 || statement >= size || i < 0 || i >= at(itemCounts, statement)) {
                return NO_ITEM;
            }
            return at(items, at(itemStarts, statement) + i);
        }

        private boolean isBefore(int feature, int other) {
            if (feature >= 0 && other >= 0) {
                return feature < other;
            }
            if (feature >= 0 || other >= 0) {
                return feature >= 0;
            }
            return names.compareAtoms(-1 - feature, -1 - other) < 0;
        }
    }

    /** Makes the statements of the tree. */
    private static final class Builder {
        private final Tree tree;
        private final Scope scope;
        private final Kernel kernel;
        /** The new variables of the items that are under way, those of the innermost last. */
        private final int[] fresh = new int[Kernel.MOST_VARIABLES];
        /** The operations that wait for their operands: node, and how many operands it has. */
        private final int[] waiting = new int[Tokens.MOST];
        private final int[] operands = new int[Tokens.MOST];
        private int freshSize;
        private int waitingSize;
        private int first;
        private int last;

        Builder(Tree tree, Scope scope, Kernel kernel) {
            this.tree = tree;
            this.scope = scope;
            this.kernel = kernel;
        }

        int program(int block) {
            freshSize = 0;
            waitingSize = 0;
            first = NONE;
            last = NONE;
            return body(block, NONE);
        }

        /** A body, or a value into x, as a row of its own: its first statement. */
        private int body(int block, int x) {
            int outerFirst = first;
            int outerLast = last;
            first = NONE;
            last = NONE;
            int node = tree.a(block);
            for (int i = 0; i < Tokens.MOST && node != NONE; i++) {
                single(node, NONE);
                node = tree.next(node);
            }
            if (tree.b(block) != NONE) {
                single(tree.b(block), x);
            }
            int made = first;
            first = outerFirst;
            last = outerLast;
            return made;
        }

        /** An item, or an exp into x as an item: with new variables it stands in a LOCAL. */
        private void single(int node, int x) {
            int before = last;
            int base = freshSize;
            if (x == NONE) {
                plainItem(node);
            } else {
                into(node, x);
            }
            if (freshSize == base) {
                return;
            }
            int inner = before == NONE ? first : kernel.next(before);
            last = before;
            if (before == NONE) {
                first = NONE;
            }
            emit(Kernel.LOCAL, NONE, inner, NONE);
            for (int i = base; i < freshSize; i++) {
                kernel.add(at(fresh, i));
            }
            freshSize = base;
        }

        private void plainItem(int node) {
            int a = tree.a(node);
            switch (tree.kind(node)) {
                case Tree.SKIP:
                    emit(Kernel.SKIP, NONE, NONE, NONE);
                    break;
                case Tree.UNIFY:
                    unify(a, tree.b(node));
                    break;
                case Tree.RAISE:
                    emit(Kernel.RAISE, asVariable(a), NONE, NONE);
                    break;
                case Tree.SHOW:
                    emit(Kernel.SHOW, asVariable(a), NONE, NONE);
                    break;
                case Tree.TRY:
                    attempt(node);
                    break;
                default:
                    into(node, NONE);
                    break;
            }
        }

        /** An exp into x; what is an item as well has no x as such. */
        private void into(int node, int x) {
            int a = tree.a(node);
            switch (tree.kind(node)) {
                case Tree.VARIABLE:
                    emit(Kernel.SAME, x, scope.variable(a), NONE);
                    break;
                case Tree.NUMBER:
                    emit(Kernel.NUMBER, x, a, NONE);
                    break;
                case Tree.ATOM:
                    emit(Kernel.ATOM, x, a, NONE);
                    break;
                case Tree.RECORD:
                    record(node, x);
                    break;
                case Tree.PAIR:
                    pairs(node, x);
                    break;
                case Tree.OPERATE:
                case Tree.SELECT:
                    operations(node, x);
                    break;
                case Tree.APPLY:
                    apply(node, x);
                    break;
                case Tree.PROCEDURE:
                case Tree.FUNCTION:
                    procedure(node, x);
                    break;
                case Tree.LOCAL:
                    local(node, x);
                    break;
                case Tree.IF:
                    choice(node, x);
                    break;
                case Tree.CASE:
                    cases(node, x);
                    break;
                case Tree.THREAD:
                    emit(Kernel.THREAD, NONE, body(a, x), NONE);
                    break;
                default:
                    // _ makes nothing.
                    break;
            }
        }

        private void emit(int kind, int x, int a, int b) {
            append(kernel.make(kind, x, a, b));
        }

        private void append(int statement) {
            if (last == NONE) {
                first = statement;
            } else {
                kernel.link(last, statement);
            }
            last = statement;
        }

        private boolean isVariable(int node) {
            return tree.kind(node) == Tree.VARIABLE;
        }

        private int asVariable(int node) {
            int variable = target(node);
            if (!isVariable(node)) {
                into(node, variable);
            }
            return variable;
        }

        /** The variable for an exp: itself when it is one, otherwise new, and still empty. */
        private int target(int node) {
            int variable = isVariable(node) ? scope.variable(tree.a(node)) : makeFresh();
            tree.setVariable(node, variable);
            return variable;
        }

        private int makeFresh() {
            int variable = kernel.makeVariable(NONE);
            set(fresh, freshSize, variable);
            freshSize++;
            return variable;
        }

        private void unify(int left, int right) {
            if (isVariable(left)) {
                into(right, scope.variable(tree.a(left)));
            } else if (isVariable(right)) {
                into(left, scope.variable(tree.a(right)));
            } else {
                int variable = target(left);
                into(left, variable);
                into(right, variable);
            }
        }

        private void record(int node, int x) {
            int field = tree.b(node);
            for (int i = 0; i < Tokens.MOST && field != NONE; i++) {
                target(tree.b(field));
                field = tree.next(field);
            }
            emit(Kernel.RECORD, x, tree.a(node), NONE);
            field = tree.b(node);
            for (int i = 0; i < Tokens.MOST && field != NONE; i++) {
                kernel.addPair(tree.a(field), tree.variable(tree.b(field)));
                field = tree.next(field);
            }
            kernel.sortPairs(0);
            field = tree.b(node);
            for (int i = 0; i < Tokens.MOST && field != NONE; i++) {
                int part = tree.b(field);
                if (!isVariable(part)) {
                    into(part, tree.variable(part));
                }
                field = tree.next(field);
            }
        }

        /** The right side of a pair is often a pair again, so it is gone on with, not called. */
        private void pairs(int node, int x) {
            int pair = node;
            int whole = x;
            for (int i = 0; i < Tokens.MOST && tree.kind(pair) == Tree.PAIR; i++) {
                int left = tree.a(pair);
                int right = tree.b(pair);
                int head = target(left);
                int tail = target(right);
                emit(Kernel.RECORD, whole, Names.BAR, NONE);
                kernel.addPair(1, head);
                kernel.addPair(2, tail);
                if (!isVariable(left)) {
                    into(left, head);
                }
                pair = right;
                whole = tail;
            }
            if (!isVariable(pair)) {
                into(pair, whole);
            }
        }

        /** A row of operations can be long and its first ones lie deep, so they wait in a row. */
        private void operations(int node, int x) {
            int base = waitingSize;
            tree.setVariable(node, x);
            await(node);
            for (int i = 0; i < 4 * Tokens.MOST && waitingSize > base; i++) {
                int top = at(waiting, waitingSize - 1);
                int operand = nextOperand(top);
                if (operand == NONE) {
                    waitingSize--;
                    operate(top);
                    continue;
                }
                int variable = target(operand);
                if (isOperation(operand)) {
                    await(operand);
                } else if (!isVariable(operand)) {
                    into(operand, variable);
                }
            }
        }

        private boolean isOperation(int node) {
            return tree.kind(node) == Tree.OPERATE || tree.kind(node) == Tree.SELECT;
        }

        private void await(int node) {
            set(waiting, waitingSize, node);
            set(operands, waitingSize, 0);
            waitingSize++;
        }

        /** The operand that the newest waiting operation needs next; NONE when it has all. */
        private int nextOperand(int node) {
            int had = at(operands, waitingSize - 1);
            set(operands, waitingSize - 1, had + 1);
            if (had == 0) {
                return tree.a(node);
            }
            return had == 1 && tree.kind(node) == Tree.OPERATE ? tree.b(node) : NONE;
        }

        private void operate(int node) {
            int x = tree.variable(node);
            int left = tree.variable(tree.a(node));
            if (tree.kind(node) == Tree.SELECT) {
                emit(Kernel.SELECT, x, left, tree.b(node));
                return;
            }
            if (tree.c(node) == Kernel.EQUALITY) {
                emit(Kernel.EQUAL, x, NONE, NONE);
            } else {
                emit(Kernel.OPERATE, x, tree.c(node), NONE);
            }
            kernel.add(left);
            kernel.add(tree.variable(tree.b(node)));
        }

        private void apply(int node, int x) {
            int applied = tree.a(node);
            int exp = applied;
            for (int i = 0; i < Tokens.MOST && exp != NONE; i++) {
                asVariable(exp);
                exp = tree.next(exp);
            }
            emit(Kernel.APPLY, tree.variable(applied), NONE, NONE);
            exp = tree.next(applied);
            for (int i = 0; i < Tokens.MOST && exp != NONE; i++) {
                kernel.add(tree.variable(exp));
                exp = tree.next(exp);
            }
            if (x != NONE) {
                kernel.add(x);
            }
        }

        /** The result of a fun is a parameter, so it stands in no LOCAL. */
        private void procedure(int node, int x) {
            bear(tree.a(node), tree.c(node));
            int result = tree.kind(node) == Tree.FUNCTION ? kernel.makeVariable(NONE) : NONE;
            emit(Kernel.PROCEDURE, x, body(tree.b(node), result), NONE);
            addVariables(tree.a(node), tree.c(node));
            if (result != NONE) {
                kernel.add(result);
            }
        }

        private void local(int node, int x) {
            bear(tree.a(node), tree.c(node));
            emit(Kernel.LOCAL, NONE, body(tree.b(node), x), NONE);
            addVariables(tree.a(node), tree.c(node));
        }

        /** Gives n bindings their variables. */
        private void bear(int binding, int n) {
            for (int i = 0; i < n; i++) {
                int variable = kernel.makeVariable(scope.entry(binding + i));
                scope.setVariable(binding + i, variable);
            }
        }

        private void addVariables(int binding, int n) {
            for (int i = 0; i < n; i++) {
                kernel.add(scope.variable(binding + i));
            }
        }

        private void choice(int node, int x) {
            int condition = asVariable(tree.a(node));
            int then = body(tree.b(node), x);
            int otherwise = tree.c(node) == NONE ? NONE : body(tree.c(node), x);
            emit(Kernel.IF, condition, then, otherwise);
        }

        private void attempt(int node) {
            int tried = body(tree.a(node), NONE);
            bear(tree.c(node), 1);
            int then = body(tree.b(node), NONE);
            emit(Kernel.TRY, scope.variable(tree.c(node)), tried, then);
        }

        /** All bodies from the first on, then the statements from the last one back. */
        private void cases(int node, int x) {
            int subject = asVariable(tree.a(node));
            int before = NONE;
            int branch = tree.b(node);
            for (int i = 0; i < Tokens.MOST && branch != NONE; i++) {
                bearSlots(tree.a(branch));
                tree.setB(branch, body(tree.b(branch), x));
                tree.setC(branch, before);
                before = branch;
                branch = tree.next(branch);
            }
            int other = tree.c(node) == NONE ? noMatch() : body(tree.c(node), x);
            for (int i = 0; i < Tokens.MOST && before != NONE; i++) {
                other = kernel.make(Kernel.CASE, subject, tree.b(before), other);
                addPattern(tree.a(before));
                before = tree.c(before);
            }
            append(other);
        }

        private void bearSlots(int pattern) {
            int slot = tree.c(pattern);
            for (int i = 0; i < Tokens.MOST && slot != NONE; i++) {
                if (tree.b(slot) != NONE) {
                    bear(tree.b(slot), 1);
                }
                slot = tree.next(slot);
            }
        }

        private void addPattern(int pattern) {
            kernel.add(tree.a(pattern));
            kernel.add(tree.b(pattern));
            int slot = tree.c(pattern);
            for (int i = 0; i < Tokens.MOST && slot != NONE; i++) {
                kernel.addPair(tree.a(slot), scope.variable(tree.b(slot)));
                slot = tree.next(slot);
            }
            kernel.sortPairs(2);
        }

        /** What a case without else does when nothing fits: a LOCAL of its own. */
        private int noMatch() {
            int variable = kernel.makeVariable(NONE);
            int told = kernel.make(Kernel.ATOM, variable, Names.NO_MATCH, NONE);
            kernel.link(told, kernel.make(Kernel.RAISE, variable, NONE, NONE));
            int around = kernel.make(Kernel.LOCAL, NONE, told, NONE);
            kernel.add(variable);
            return around;
        }
    }
}
