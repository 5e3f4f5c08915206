/** Tables of results as texts in four forms, written and read back. */
public final class ResultForms {
    public static final int BAD = -1;
    public static final int NO = -2;
    public static final int FULL = -3;

    private static final int NODE = 0;
    private static final int BLANK = 1;
    private static final int PLAIN = 2;
    private static final int TAGGED = 3;
    private static final int TYPED = 4;

    private static final int MOST_BYTES = 3000;
    private static final int MOST_TEXT = 20;
    private static final int MOST_BLANK = 8;
    private static final int MOST_NAME = 8;
    private static final int MOST_TERMS = 60;
    private static final int MOST_VARIABLES = 6;
    private static final int MOST_ROWS = 24;
    private static final int LETTERS = 26;
    private static final int TYPES = 4;

    /** Stands for no term, no byte, no variable. */
    private static final int NONE = -1;
    /** What a fault at place 0 answers. */
    private static final int FIRST_FAULT = -10;

    private final Bytes tape;
    private final Bytes out;
    /** Written on first, so that the out stays when what is written is too long. */
    private final Bytes sheet;
    private final Text typed;
    private final Terms terms;
    private final Table table;
    /** Read into first, so that the table stays when there is a fault. */
    private final Table draft;
    private final Table kept;
    private boolean hasKept;
    private final Scanner in;
    private final Json json;
    private final Xml xml;
    private final Commas commas;
    private final Tabs tabs;

    public ResultForms() {
        tape = new Bytes();
        out = new Bytes();
        sheet = new Bytes();
        typed = new Text();
        terms = new Terms();
        table = new Table();
        draft = new Table();
        kept = new Table();
        hasKept = false;
        in = new Scanner(tape);
        json = new Json(in, sheet, terms);
        xml = new Xml(in, sheet, terms);
        commas = new Commas(in, sheet, terms);
        tabs = new Tabs(in, sheet, terms);
    }

    public int type(long bytes, int n) {
        if (n < 1 || n > 8) return BAD;
        if (!tape.hasRoom(n)) return FULL;
        for (int i = n - 1; i >= 0; i--) tape.add((int) (bytes >>> (8 * i)) & 255);
        return tape.length;
    }

    public int pass() {
        if (!tape.hasRoom(out.length)) return FULL;
        for (int i = 0; i < out.length; i++) tape.add(out.get(i));
        return tape.length;
    }

    public int term(int kind, int extra) {
        boolean isText = typed.takeAll(tape);
        tape.empty();
        if (!isText || !isExtra(kind, extra) || !typed.isOf(kind)) return BAD;
        int found = terms.find(kind, extra, typed);
        if (found != NONE) return found;
        if (terms.size >= MOST_TERMS) return FULL;
        return terms.numberOf(kind, extra, typed);
    }

    public int of(int term, int what) {
        if (!terms.has(term)) return BAD;
        switch (what) {
            case 0: return terms.kindOf(term);
            case 1: return terms.extraOf(term);
            case 2: return terms.lengthOf(term);
            default: return what > 2 && what - 3 < terms.lengthOf(term) ? terms.byteOf(term, what - 3) : BAD;
        }
    }

    public int variable() {
        int length = tape.length;
        boolean isNew = isName(tape) && table.find(tape, 0, length) == NONE;
        int answer;
        if (!isNew) {
            answer = BAD;
        } else if (table.rows > 0) {
            answer = NO;
        } else if (table.variables >= MOST_VARIABLES) {
            answer = FULL;
        } else {
            table.addVariable(tape, 0, length);
            answer = table.variables - 1;
        }
        tape.empty();
        return answer;
    }

    public int row() {
        if (!table.hasRoomForRow()) return FULL;
        return table.addRow();
    }

    public int put(int row, int variable, int term) {
        if (!table.hasCell(row, variable)) return BAD;
        if (term != NONE && !terms.has(term)) return BAD;
        if (table.cell(row, variable) == term) return 0;
        table.setCell(row, variable, term);
        return 1;
    }

    public int clear() {
        int rows = table.rows;
        table.empty();
        return rows;
    }

    public int value(int row, int variable) {
        return table.hasCell(row, variable) ? table.cell(row, variable) : NO;
    }

    public int write(int form) {
        sheet.empty();
        switch (form) {
            case 0: json.print(table); break;
            case 1: xml.print(table); break;
            case 2: commas.print(table); break;
            case 3: tabs.print(table); break;
            default: return BAD;
        }
        return publish();
    }

    public int say(int form, boolean v) {
        sheet.empty();
        switch (form) {
            case 0: json.printTruth(v); break;
            case 1: xml.printTruth(v); break;
            default: return BAD;
        }
        return publish();
    }

    public int at(int i) {
        return i >= 0 && i < out.length ? out.get(i) : BAD;
    }

    public int read(int form) {
        if (form < 0 || form > 3) {
            tape.empty();
            return BAD;
        }
        int termsBefore = terms.size;
        draft.empty();
        in.begin();
        boolean whole;
        switch (form) {
            case 0: whole = json.parse(draft); break;
            case 1: whole = xml.parse(draft); break;
            case 2: whole = commas.parse(draft); break;
            default: whole = tabs.parse(draft);
        }
        tape.empty();
        if (whole && terms.size <= MOST_TERMS) {
            table.copyFrom(draft);
            return table.rows;
        }
        terms.forgetFrom(termsBefore);
        return whole ? FULL : FIRST_FAULT - in.fault;
    }

    public int hear(int form) {
        if (form < 0 || form > 1) {
            tape.empty();
            return BAD;
        }
        in.begin();
        int truth = form == 0 ? json.parseTruth() : xml.parseTruth();
        tape.empty();
        return truth != NONE ? truth : FIRST_FAULT - in.fault;
    }

    public int keep() {
        kept.copyFrom(table);
        hasKept = true;
        return kept.rows;
    }

    public int same(boolean ordered) {
        if (!hasKept) return NO;
        if (table.rows != kept.rows || !table.hasNamesOf(kept)) return 0;
        for (int r = 0; r < table.rows; r++) {
            boolean met = ordered ? kept.isAlike(r, table, r) : !isLacking(r);
            if (!met) return 0;
        }
        return 1;
    }

    public int lacks(int i) {
        if (!hasKept || i < 0) return NO;
        boolean comparable = table.hasNamesOf(kept);
        int lacking = 0;
        for (int r = 0; r < table.rows; r++) {
            if (comparable && !isLacking(r)) continue;
            if (lacking == i) return r;
            lacking++;
        }
        return NO;
    }

    public int distinct() {
        return table.dropRepeated();
    }

    public int count(int what) {
        switch (what) {
            case 0: return table.variables;
            case 1: return table.rows;
            case 2: return terms.size;
            case 3: return tape.length;
            case 4: return out.length;
            default: return BAD;
        }
    }

    private int publish() {
        if (sheet.over) return FULL;
        out.copyFrom(sheet);
        return out.length;
    }

    /**
     * Rows before this one that are like it have each taken one away from the kept table,
     * so it goes without when there are as many of them as there are like it there.
     */
    private boolean isLacking(int row) {
        return table.countAlike(table, row, row) >= kept.countAlike(table, row, kept.rows);
    }

    private static boolean isExtra(int kind, int extra) {
        switch (kind) {
            case NODE:
            case BLANK:
            case PLAIN: return extra == 0;
            case TAGGED: return extra >= 0 && extra < LETTERS * LETTERS;
            case TYPED: return extra >= 0 && extra < TYPES;
            default: return false;
        }
    }

    private static boolean isName(Bytes bytes) {
        if (bytes.length < 1 || bytes.length > MOST_NAME) return false;
        for (int i = 0; i < bytes.length; i++) {
            if (!isLetter(bytes.get(i))) return false;
        }
        return true;
    }

    private static boolean isLetter(int b) {
        return b >= 'a' && b <= 'z';
    }

    private static boolean isLetterOrDigit(int b) {
        return b >= 'a' && b <= 'z' || b >= '0' && b <= '9';
    }

    private static boolean isPrinted(int b) {
        return b >= 32 && b <= 126;
    }

    private static boolean isTextByte(int b) {
        return isPrinted(b) || b == 9 || b == 10 || b == 13;
    }

    private static boolean isNodeByte(int b) {
        return b >= 33 && b <= 126 && "\"<>\\^`{|}".indexOf((char) b) < 0;
    }

    private static String typeName(int type) {
        switch (type) {
            case 0: return "whole";
            case 1: return "real";
            case 2: return "truth";
            default: return "date";
        }
    }

    private static String truthName(boolean v) {
        return v ? "true" : "false";
    }

    /** As many bytes as the tape and the out may have. */
    private static final class Bytes {
        private final int[] bytes;
        private int length;
        private boolean over;

        Bytes() {
            bytes = new int[MOST_BYTES];
            length = 0;
            over = false;
        }

        void empty() {
            length = 0;
            over = false;
        }

        boolean hasRoom(int n) {
            return n <= MOST_BYTES - length;
        }

        int get(int i) {
            return i >= 0 && i < length && i < MOST_BYTES ? bytes[i] : NONE;
        }

        void add(int b) {
            if (length >= 0 && length < MOST_BYTES) {
                bytes[length] = b;
                length++;
            } else {
                over = true;
            }
        }

        void addAll(String s) {
            for (int i = 0; i < s.length(); i++) add(s.charAt(i));
        }

        void copyFrom(Bytes other) {
            empty();
            for (int i = 0; i < other.length; i++) add(other.get(i));
        }
    }

    /** A text while it is typed or read, before it is known as a term. */
    private static final class Text {
        private final int[] bytes;
        private int length;

        Text() {
            bytes = new int[MOST_TEXT];
            length = 0;
        }

        void empty() {
            length = 0;
        }

        boolean isFull() {
            return length >= MOST_TEXT;
        }

        int get(int i) {
            return i >= 0 && i < length && i < MOST_TEXT ? bytes[i] : NONE;
        }

        void add(int b) {
            if (length < 0 || length >= MOST_TEXT) return;
            bytes[length] = b;
            length++;
        }

        /** Whether all that is on the tape is a text; it is here then. */
        boolean takeAll(Bytes tape) {
            empty();
            if (tape.length > MOST_TEXT) return false;
            for (int i = 0; i < tape.length; i++) {
                if (!isTextByte(tape.get(i))) return false;
                add(tape.get(i));
            }
            return true;
        }

        boolean isOf(int kind) {
            if (kind != NODE && kind != BLANK) return true;
            for (int i = 0; i < length; i++) {
                boolean fits = kind == NODE ? isNodeByte(get(i)) : isLetterOrDigit(get(i));
                if (!fits) return false;
            }
            return length > 0 && (kind == NODE || length <= MOST_BLANK);
        }
    }

    private static final class Terms {
        /** Reading tries its terms out here before it is known whether they are too many: every cell may be new. */
        private static final int ROOM = MOST_TERMS + MOST_ROWS * MOST_VARIABLES;

        private final int[] kinds;
        private final int[] extras;
        private final int[] lengths;
        private final int[] bytes;
        private int size;

        Terms() {
            kinds = new int[ROOM];
            extras = new int[ROOM];
            lengths = new int[ROOM];
            bytes = new int[ROOM * MOST_TEXT];
            size = 0;
        }

        boolean has(int t) {
            return t >= 0 && t < size;
        }

        int kindOf(int t) {
            return t >= 0 && t < size && t < ROOM ? kinds[t] : NONE;
        }

        int extraOf(int t) {
            return t >= 0 && t < size && t < ROOM ? extras[t] : NONE;
        }

        int lengthOf(int t) {
            return t >= 0 && t < size && t < ROOM ? lengths[t] : 0;
        }

        int byteOf(int t, int i) {
            if (t < 0 || t >= size || t >= ROOM) return NONE;
            return i >= 0 && i < lengths[t] && i < MOST_TEXT ? bytes[t * MOST_TEXT + i] : NONE;
        }

        void forgetFrom(int first) {
            if (first >= 0 && first < size) size = first;
        }

        int find(int kind, int extra, Text text) {
            for (int t = 0; t < size; t++) {
                if (kindOf(t) == kind && extraOf(t) == extra && hasText(t, text)) return t;
            }
            return NONE;
        }

        private boolean hasText(int t, Text text) {
            if (lengthOf(t) != text.length) return false;
            for (int i = 0; i < text.length; i++) {
                if (byteOf(t, i) != text.get(i)) return false;
            }
            return true;
        }

        /** The term that is like this one, or else a new one. */
        int numberOf(int kind, int extra, Text text) {
            int found = find(kind, extra, text);
            if (found != NONE || size < 0 || size >= ROOM) return found;
            kinds[size] = kind;
            extras[size] = extra;
            lengths[size] = text.length;
            for (int i = 0; i < text.length && i < MOST_TEXT; i++) bytes[size * MOST_TEXT + i] = text.get(i);
            size++;
            return size - 1;
        }

        void printAsIs(int t, Bytes out) {
            for (int i = 0; i < lengthOf(t); i++) out.add(byteOf(t, i));
        }

        void printBackslashed(int t, Bytes out) {
            for (int i = 0; i < lengthOf(t); i++) {
                int b = byteOf(t, i);
                switch (b) {
                    case '"': out.addAll("\\\""); break;
                    case '\\': out.addAll("\\\\"); break;
                    case 9: out.addAll("\\t"); break;
                    case 10: out.addAll("\\n"); break;
                    case 13: out.addAll("\\r"); break;
                    default: out.add(b);
                }
            }
        }

        /** The tag or the type by its name. */
        void printExtra(int t, Bytes out) {
            int extra = extraOf(t);
            if (kindOf(t) == TAGGED) {
                out.add('a' + extra / LETTERS);
                out.add('a' + extra % LETTERS);
            } else {
                out.addAll(typeName(extra));
            }
        }
    }

    private static final class Table {
        private final int[] names;
        private final int[] nameLengths;
        private final int[] cells;
        private int variables;
        private int rows;

        Table() {
            names = new int[MOST_VARIABLES * MOST_NAME];
            nameLengths = new int[MOST_VARIABLES];
            cells = new int[MOST_ROWS * MOST_VARIABLES];
            variables = 0;
            rows = 0;
        }

        void empty() {
            variables = 0;
            rows = 0;
        }

        private int lengthOfName(int v) {
            return v >= 0 && v < MOST_VARIABLES ? nameLengths[v] : 0;
        }

        private int byteOfName(int v, int i) {
            if (v < 0 || v >= MOST_VARIABLES) return NONE;
            return i >= 0 && i < nameLengths[v] && i < MOST_NAME ? names[v * MOST_NAME + i] : NONE;
        }

        /** The variable that is named as these bytes are. */
        int find(Bytes bytes, int from, int length) {
            for (int v = 0; v < variables; v++) {
                if (isNamed(v, bytes, from, length)) return v;
            }
            return NONE;
        }

        private boolean isNamed(int v, Bytes bytes, int from, int length) {
            if (lengthOfName(v) != length) return false;
            for (int i = 0; i < length; i++) {
                if (byteOfName(v, i) != bytes.get(from + i)) return false;
            }
            return true;
        }

        void addVariable(Bytes bytes, int from, int length) {
            if (variables < 0 || variables >= MOST_VARIABLES || length < 1 || length > MOST_NAME) return;
            nameLengths[variables] = length;
            for (int i = 0; i < length; i++) names[variables * MOST_NAME + i] = bytes.get(from + i);
            variables++;
        }

        void printName(int v, Bytes out) {
            for (int i = 0; i < lengthOfName(v); i++) out.add(byteOfName(v, i));
        }

        boolean hasRoomForRow() {
            return rows < MOST_ROWS;
        }

        int addRow() {
            if (!hasRoomForRow()) return NONE;
            rows++;
            for (int v = 0; v < MOST_VARIABLES; v++) setCell(rows - 1, v, NONE);
            return rows - 1;
        }

        boolean hasCell(int r, int v) {
            return r >= 0 && r < rows && v >= 0 && v < variables;
        }

        int cell(int r, int v) {
            return inRoom(r, v) ? cells[r * MOST_VARIABLES + v] : NONE;
        }

        void setCell(int r, int v, int t) {
            if (inRoom(r, v)) cells[r * MOST_VARIABLES + v] = t;
        }

        private static boolean inRoom(int r, int v) {
            return r >= 0 && r < MOST_ROWS && v >= 0 && v < MOST_VARIABLES;
        }

        void copyFrom(Table other) {
            for (int i = 0; i < MOST_VARIABLES * MOST_NAME; i++) names[i] = other.names[i];
            for (int v = 0; v < MOST_VARIABLES; v++) nameLengths[v] = other.nameLengths[v];
            for (int i = 0; i < MOST_ROWS * MOST_VARIABLES; i++) cells[i] = other.cells[i];
            variables = other.variables;
            rows = other.rows;
        }

        boolean hasNamesOf(Table other) {
            if (variables != other.variables) return false;
            for (int v = 0; v < variables; v++) {
                if (lengthOfName(v) != other.lengthOfName(v)) return false;
                for (int i = 0; i < lengthOfName(v); i++) {
                    if (byteOfName(v, i) != other.byteOfName(v, i)) return false;
                }
            }
            return true;
        }

        /** Whether row r here is like row s there; both tables have as many variables. */
        boolean isAlike(int r, Table other, int s) {
            for (int v = 0; v < variables; v++) {
                if (cell(r, v) != other.cell(s, v)) return false;
            }
            return true;
        }

        /** How many of the first rows here are like row s there. */
        int countAlike(Table other, int s, int first) {
            int alike = 0;
            for (int r = 0; r < first && r < rows; r++) {
                if (isAlike(r, other, s)) alike++;
            }
            return alike;
        }

        int dropRepeated() {
            int before = rows;
            int left = 0;
            for (int r = 0; r < before; r++) {
                if (countAlike(this, r, left) > 0) continue;
                for (int v = 0; v < variables; v++) setCell(left, v, cell(r, v));
                left++;
            }
            rows = left;
            return before - left;
        }
    }

    /**
     * Goes along the tape. What took it or not only looks; all else that answers false or NONE has
     * met the first fault, and the reading is over.
     */
    private static final class Scanner {
        private final Bytes tape;
        private int place;
        private int fault;
        private int wordFrom;
        private int wordLength;
        /** The term that has been read last: its kind (NONE for none), its tag or type, its text. */
        private int kind;
        private int extra;
        private final Text text;

        Scanner(Bytes tape) {
            this.tape = tape;
            text = new Text();
            begin();
        }

        void begin() {
            place = 0;
            fault = 0;
            wordFrom = 0;
            wordLength = 0;
            beginTerm(NONE);
        }

        void beginTerm(int kind) {
            this.kind = kind;
            extra = 0;
            text.empty();
        }

        boolean fail() {
            fault = place;
            return false;
        }

        boolean failAt(int where) {
            fault = where;
            return false;
        }

        boolean isEnded() {
            return place >= tape.length;
        }

        boolean mustEnd() {
            return isEnded() || fail();
        }

        /** The byte so far ahead, or NONE behind the end. */
        private int ahead(int n) {
            int i = place + n;
            return i >= 0 && i < tape.length && i < MOST_BYTES ? tape.bytes[i] : NONE;
        }

        int next() {
            return place >= 0 && place < tape.length && place < MOST_BYTES ? tape.bytes[place] : NONE;
        }

        boolean took(int b) {
            if (next() != b) return false;
            place++;
            return true;
        }

        /** Goes behind these bytes if all of them come, else stays. */
        boolean tookAll(String s) {
            for (int i = 0; i < s.length(); i++) {
                if (ahead(i) != s.charAt(i)) return false;
            }
            place += s.length();
            return true;
        }

        boolean must(String s) {
            for (int i = 0; i < s.length(); i++) {
                if (!took(s.charAt(i))) return fail();
            }
            return true;
        }

        /** As must, but a space in the pattern stands for as many blanks as there are. */
        boolean mustLoosely(String pattern) {
            for (int i = 0; i < pattern.length(); i++) {
                if (pattern.charAt(i) == ' ') {
                    skipBlanks();
                } else if (!took(pattern.charAt(i))) {
                    return fail();
                }
            }
            return true;
        }

        void skipBlanks() {
            while (place < tape.length) {
                int b = next();
                if (b != 9 && b != 10 && b != 13 && b != 32) return;
                place++;
            }
        }

        /** As many letters as there are. */
        private void takeWord() {
            wordFrom = place;
            while (place < tape.length && isLetter(next())) place++;
            wordLength = place - wordFrom;
        }

        private boolean isWord(String s) {
            if (s.length() != wordLength) return false;
            for (int i = 0; i < wordLength; i++) {
                if (tape.get(wordFrom + i) != s.charAt(i)) return false;
            }
            return true;
        }

        /** A name of the head, that comes to the table. */
        boolean newName(Table table) {
            takeWord();
            if (wordLength < 1 || wordLength > MOST_NAME) return failAt(wordFrom);
            if (table.variables >= MOST_VARIABLES) return failAt(wordFrom);
            if (table.find(tape, wordFrom, wordLength) != NONE) return failAt(wordFrom);
            table.addVariable(tape, wordFrom, wordLength);
            return true;
        }

        /** The variable that is named in a row, behind the last one there. */
        int nameBehind(Table table, int last) {
            takeWord();
            int v = table.find(tape, wordFrom, wordLength);
            if (v > last) return v;
            failAt(wordFrom);
            return NONE;
        }

        /** The word for a kind; every literal is taken for a plain one until more of it comes. */
        boolean kindWord() {
            takeWord();
            if (isWord("uri")) {
                beginTerm(NODE);
            } else if (isWord("bnode")) {
                beginTerm(BLANK);
            } else if (isWord("literal")) {
                beginTerm(PLAIN);
            } else {
                return failAt(wordFrom);
            }
            return true;
        }

        /** The name of a tag or type; the term is of this kind then. */
        boolean extraWord(int kindThen) {
            takeWord();
            kind = kindThen;
            extra = NONE;
            if (kindThen == TAGGED && wordLength == 2) {
                extra = LETTERS * (tape.get(wordFrom) - 'a') + tape.get(wordFrom + 1) - 'a';
            }
            for (int type = 0; kindThen == TYPED && type < TYPES; type++) {
                if (isWord(typeName(type))) extra = type;
            }
            return extra != NONE || failAt(wordFrom);
        }

        int truth() {
            if (next() == 't') return must("true") ? 1 : NONE;
            return must("false") ? 0 : NONE;
        }

        /** This byte, as so many on the tape, is one more of the text. */
        void take(int b, int width) {
            text.add(b);
            place += width;
        }

        /** A text of forms 0 and 3, and the quote behind it. */
        boolean backslashedText(boolean withSlash) {
            for (int i = 0; i <= MOST_TEXT; i++) {
                int b = next();
                if (b == '"') {
                    place++;
                    return true;
                }
                if (text.isFull()) return fail();
                boolean isEscape = b == '\\';
                int meant = isEscape ? unescaped(ahead(1), withSlash) : b;
                if (!isEscape && !isPrinted(b) || meant == NONE) return fail();
                take(meant, isEscape ? 2 : 1);
            }
            return fail();
        }

        private static int unescaped(int b, boolean withSlash) {
            switch (b) {
                case '"':
                case '\\': return b;
                case 't': return 9;
                case 'n': return 10;
                case 'r': return 13;
                case '/': return withSlash ? b : NONE;
                default: return NONE;
            }
        }
    }

    /** Form 0. */
    private static final class Json {
        private final Scanner in;
        private final Bytes out;
        private final Terms terms;

        Json(Scanner in, Bytes out, Terms terms) {
            this.in = in;
            this.out = out;
            this.terms = terms;
        }

        void printTruth(boolean v) {
            out.addAll("{\"head\":{},\"boolean\":");
            out.addAll(truthName(v));
            out.add('}');
        }

        void print(Table table) {
            out.addAll("{\"head\":{\"vars\":[");
            for (int v = 0; v < table.variables; v++) {
                if (v > 0) out.add(',');
                printName(table, v);
            }
            out.addAll("]},\"results\":{\"bindings\":[");
            for (int r = 0; r < table.rows; r++) {
                if (r > 0) out.add(',');
                printRow(table, r);
            }
            out.addAll("]}}");
        }

        private void printName(Table table, int v) {
            out.add('"');
            table.printName(v, out);
            out.add('"');
        }

        private void printRow(Table table, int r) {
            boolean isFirst = true;
            out.add('{');
            for (int v = 0; v < table.variables; v++) {
                int t = table.cell(r, v);
                if (t == NONE) continue;
                if (!isFirst) out.add(',');
                isFirst = false;
                printName(table, v);
                printTerm(t);
            }
            out.add('}');
        }

        private void printTerm(int t) {
            int kind = terms.kindOf(t);
            out.addAll(":{\"type\":\"");
            out.addAll(kind == NODE ? "uri" : kind == BLANK ? "bnode" : "literal");
            out.addAll("\",\"value\":\"");
            terms.printBackslashed(t, out);
            if (kind == TAGGED) out.addAll("\",\"xml:lang\":\"");
            if (kind == TYPED) out.addAll("\",\"datatype\":\"");
            if (kind == TAGGED || kind == TYPED) terms.printExtra(t, out);
            out.addAll("\"}");
        }

        int parseTruth() {
            if (!in.mustLoosely(" { \"head\" : { } , \"boolean\" : ")) return NONE;
            int truth = in.truth();
            return truth != NONE && in.mustLoosely(" } ") && in.mustEnd() ? truth : NONE;
        }

        boolean parse(Table table) {
            return in.mustLoosely(" { \"head\" : { \"vars\" : [ ")
                && parseNames(table)
                && in.mustLoosely(" } , \"results\" : { \"bindings\" : [ ")
                && parseRows(table)
                && in.mustLoosely(" } } ")
                && in.mustEnd();
        }

        /** The loop ends before its bound, as one name too many is a fault; likewise in the loops below. */
        private boolean parseNames(Table table) {
            if (in.took(']')) return true;
            for (int i = 0; i <= MOST_VARIABLES; i++) {
                if (!in.mustLoosely(" \"") || !in.newName(table) || !in.mustLoosely("\" ")) return false;
                if (!in.took(',')) return in.must("]");
            }
            return in.fail();
        }

        private boolean parseRows(Table table) {
            if (in.took(']')) return true;
            for (int i = 0; i <= MOST_ROWS; i++) {
                in.skipBlanks();
                if (!table.hasRoomForRow()) return in.fail();
                if (!parseRow(table)) return false;
                in.skipBlanks();
                if (!in.took(',')) return in.must("]");
            }
            return in.fail();
        }

        private boolean parseRow(Table table) {
            if (!in.mustLoosely("{ ")) return false;
            int row = table.addRow();
            if (in.took('}')) return true;
            int v = NONE;
            for (int i = 0; i <= MOST_VARIABLES; i++) {
                if (!in.mustLoosely(" \"")) return false;
                v = in.nameBehind(table, v);
                if (v == NONE || !parseValue() || !parseExtra()) return false;
                table.setCell(row, v, terms.numberOf(in.kind, in.extra, in.text));
                in.skipBlanks();
                if (!in.took(',')) return in.must("}");
            }
            return in.fail();
        }

        /** From the quote behind the variable's name to the one behind the text. */
        private boolean parseValue() {
            if (!in.mustLoosely("\" : { \"type\" : \"") || !in.kindWord()) return false;
            if (!in.mustLoosely("\" , \"value\" : \"")) return false;
            int from = in.place;
            if (!in.backslashedText(true)) return false;
            return in.text.isOf(in.kind) || in.failAt(from);
        }

        /** The tag or type, if there is one, and the brace behind the term. */
        private boolean parseExtra() {
            in.skipBlanks();
            if (in.kind == PLAIN && in.took(',')) {
                if (!in.mustLoosely(" \"")) return false;
                boolean isTag = in.next() == 'x';
                if (!in.mustLoosely(isTag ? "xml:lang\" : \"" : "datatype\" : \"")) return false;
                if (!in.extraWord(isTag ? TAGGED : TYPED) || !in.mustLoosely("\" ")) return false;
            }
            return in.must("}");
        }
    }

    /** Form 1. */
    private static final class Xml {
        private final Scanner in;
        private final Bytes out;
        private final Terms terms;

        Xml(Scanner in, Bytes out, Terms terms) {
            this.in = in;
            this.out = out;
            this.terms = terms;
        }

        void printTruth(boolean v) {
            out.addAll("<sparql><head></head><boolean>");
            out.addAll(truthName(v));
            out.addAll("</boolean></sparql>");
        }

        void print(Table table) {
            out.addAll("<sparql><head>");
            for (int v = 0; v < table.variables; v++) {
                out.addAll("<variable name=\"");
                table.printName(v, out);
                out.addAll("\"/>");
            }
            out.addAll("</head><results>");
            for (int r = 0; r < table.rows; r++) printRow(table, r);
            out.addAll("</results></sparql>");
        }

        private void printRow(Table table, int r) {
            out.addAll("<result>");
            for (int v = 0; v < table.variables; v++) {
                int t = table.cell(r, v);
                if (t == NONE) continue;
                out.addAll("<binding name=\"");
                table.printName(v, out);
                out.addAll("\">");
                printTerm(t);
                out.addAll("</binding>");
            }
            out.addAll("</result>");
        }

        private void printTerm(int t) {
            int kind = terms.kindOf(t);
            out.addAll(opening(kind));
            if (kind == TAGGED) out.addAll(" xml:lang=\"");
            if (kind == TYPED) out.addAll(" datatype=\"");
            if (kind == TAGGED || kind == TYPED) {
                terms.printExtra(t, out);
                out.add('"');
            }
            out.add('>');
            printText(t);
            out.addAll(closing(kind));
        }

        private static String opening(int kind) {
            switch (kind) {
                case NODE: return "<uri";
                case BLANK: return "<bnode";
                default: return "<literal";
            }
        }

        private static String closing(int kind) {
            switch (kind) {
                case NODE: return "</uri>";
                case BLANK: return "</bnode>";
                default: return "</literal>";
            }
        }

        private void printText(int t) {
            for (int i = 0; i < terms.lengthOf(t); i++) {
                int b = terms.byteOf(t, i);
                switch (b) {
                    case '&': out.addAll("&amp;"); break;
                    case '<': out.addAll("&lt;"); break;
                    case '>': out.addAll("&gt;"); break;
                    case 13: out.addAll("&#13;"); break;
                    default: out.add(b);
                }
            }
        }

        int parseTruth() {
            if (!in.must("<sparql><head></head><boolean>")) return NONE;
            int truth = in.truth();
            return truth != NONE && in.must("</boolean></sparql>") && in.mustEnd() ? truth : NONE;
        }

        boolean parse(Table table) {
            return in.must("<sparql><head>")
                && parseNames(table)
                && in.must("</head><results>")
                && parseRows(table)
                && in.must("</results></sparql>")
                && in.mustEnd();
        }

        private boolean isClosing() {
            return in.next() == '<' && in.ahead(1) == '/';
        }

        /** The loop ends before its bound, as one name too many is a fault; likewise in the loops below. */
        private boolean parseNames(Table table) {
            for (int i = 0; i <= MOST_VARIABLES; i++) {
                if (isClosing()) return true;
                if (!in.must("<variable name=\"") || !in.newName(table) || !in.must("\"/>")) return false;
            }
            return in.fail();
        }

        private boolean parseRows(Table table) {
            for (int i = 0; i <= MOST_ROWS; i++) {
                if (isClosing()) return true;
                if (!table.hasRoomForRow()) return in.fail();
                if (!in.must("<result>") || !parseRow(table)) return false;
            }
            return in.fail();
        }

        private boolean parseRow(Table table) {
            int row = table.addRow();
            int v = NONE;
            for (int i = 0; i <= MOST_VARIABLES; i++) {
                if (isClosing()) return in.must("</result>");
                if (!in.must("<binding name=\"")) return false;
                v = in.nameBehind(table, v);
                if (v == NONE || !in.must("\"><") || !parseOpening() || !parseText()) return false;
                if (!in.must(closing(in.kind)) || !in.must("</binding>")) return false;
                table.setCell(row, v, terms.numberOf(in.kind, in.extra, in.text));
            }
            return in.fail();
        }

        /** What stands between the < and the text. */
        private boolean parseOpening() {
            switch (in.next()) {
                case 'u': in.beginTerm(NODE); return in.must("uri>");
                case 'b': in.beginTerm(BLANK); return in.must("bnode>");
                default: in.beginTerm(PLAIN);
            }
            if (!in.must("literal")) return false;
            if (in.took(' ')) {
                boolean isTag = in.next() == 'x';
                if (!in.must(isTag ? "xml:lang=\"" : "datatype=\"")) return false;
                if (!in.extraWord(isTag ? TAGGED : TYPED) || !in.must("\"")) return false;
            }
            return in.must(">");
        }

        private boolean parseText() {
            int from = in.place;
            for (int i = 0; i <= MOST_TEXT; i++) {
                int b = in.next();
                if (b == '<') return in.text.isOf(in.kind) || in.failAt(from);
                if (in.text.isFull()) return in.fail();
                if (b == '&') {
                    if (!tookEntity()) return in.fail();
                } else {
                    if (!isTextByte(b) || b == '>' || b == 13) return in.fail();
                    in.take(b, 1);
                }
            }
            return in.fail();
        }

        private boolean tookEntity() {
            int meant;
            if (in.tookAll("&amp;")) {
                meant = '&';
            } else if (in.tookAll("&lt;")) {
                meant = '<';
            } else if (in.tookAll("&gt;")) {
                meant = '>';
            } else if (in.tookAll("&#13;")) {
                meant = 13;
            } else if (in.tookAll("&quot;")) {
                meant = '"';
            } else {
                return false;
            }
            in.text.add(meant);
            return true;
        }
    }

    /** What forms 2 and 3 share: a line of names, and one for each row. */
    private abstract static class Lines {
        final Scanner in;
        final Bytes out;
        final Terms terms;
        private final String mark;
        private final char between;
        private final String lineEnd;

        Lines(Scanner in, Bytes out, Terms terms, String mark, char between, String lineEnd) {
            this.in = in;
            this.out = out;
            this.terms = terms;
            this.mark = mark;
            this.between = between;
            this.lineEnd = lineEnd;
        }

        abstract void printTerm(int t);

        /** The term that comes, or none. */
        abstract boolean parseTerm();

        final void print(Table table) {
            for (int v = 0; v < table.variables; v++) {
                if (v > 0) out.add(between);
                out.addAll(mark);
                table.printName(v, out);
            }
            out.addAll(lineEnd);
            for (int r = 0; r < table.rows; r++) printRow(table, r);
        }

        private void printRow(Table table, int r) {
            for (int v = 0; v < table.variables; v++) {
                if (v > 0) out.add(between);
                int t = table.cell(r, v);
                if (t != NONE) printTerm(t);
            }
            out.addAll(lineEnd);
        }

        final boolean parse(Table table) {
            if (!parseNames(table)) return false;
            for (int i = 0; i <= MOST_ROWS; i++) {
                if (in.isEnded()) return true;
                if (!table.hasRoomForRow()) return in.fail();
                if (!parseRow(table)) return false;
            }
            return in.fail();
        }

        /** The loop ends before its bound, as one name too many is a fault. */
        private boolean parseNames(Table table) {
            if (!lineEnd.isEmpty() && in.next() == lineEnd.charAt(0)) return in.must(lineEnd);
            for (int i = 0; i <= MOST_VARIABLES; i++) {
                if (!in.must(mark) || !in.newName(table)) return false;
                if (!in.took(between)) return in.must(lineEnd);
            }
            return in.fail();
        }

        private boolean parseRow(Table table) {
            int row = table.addRow();
            for (int v = 0; v < table.variables; v++) {
                if (v > 0 && !in.took(between)) return in.fail();
                in.beginTerm(NONE);
                if (!parseTerm()) return false;
                if (in.kind != NONE) table.setCell(row, v, terms.numberOf(in.kind, in.extra, in.text));
            }
            return in.must(lineEnd);
        }

        /** As many letters and digits as there are; the ninth is too many already. */
        final boolean parseBlank() {
            int from = in.place;
            in.beginTerm(BLANK);
            for (int i = 0; i <= MOST_BLANK && isLetterOrDigit(in.next()); i++) in.take(in.next(), 1);
            return in.text.isOf(BLANK) || in.failAt(from);
        }
    }

    /** Form 2. */
    private static final class Commas extends Lines {
        Commas(Scanner in, Bytes out, Terms terms) {
            super(in, out, terms, "", ',', "\r\n");
        }

        void printTerm(int t) {
            if (terms.kindOf(t) == BLANK) {
                out.addAll("_:");
                terms.printAsIs(t, out);
            } else if (needsQuotes(t)) {
                printQuoted(t);
            } else {
                terms.printAsIs(t, out);
            }
        }

        /** The rule for nodes is the same one, as they are never empty and have neither quotes nor line ends. */
        private boolean needsQuotes(int t) {
            if (terms.lengthOf(t) == 0) return true;
            if (terms.byteOf(t, 0) == '_' && terms.byteOf(t, 1) == ':') return true;
            for (int i = 0; i < terms.lengthOf(t); i++) {
                int b = terms.byteOf(t, i);
                if (b == ',' || b == '"' || b == 10 || b == 13) return true;
            }
            return false;
        }

        private void printQuoted(int t) {
            out.add('"');
            for (int i = 0; i < terms.lengthOf(t); i++) {
                int b = terms.byteOf(t, i);
                if (b == '"') out.add('"');
                out.add(b);
            }
            out.add('"');
        }

        boolean parseTerm() {
            if (in.took('"')) return parseQuoted();
            if (in.tookAll("_:")) return parseBlank();
            return !isBare(in.next()) || parseBare();
        }

        private boolean parseQuoted() {
            in.beginTerm(PLAIN);
            for (int i = 0; i <= MOST_TEXT; i++) {
                int b = in.next();
                boolean isQuote = b == '"';
                if (isQuote && in.ahead(1) != '"') return in.took('"');
                if (in.text.isFull() || !isTextByte(b)) return in.fail();
                in.take(b, isQuote ? 2 : 1);
            }
            return in.fail();
        }

        private boolean parseBare() {
            in.beginTerm(PLAIN);
            for (int i = 0; i <= MOST_TEXT; i++) {
                int b = in.next();
                if (!isBare(b)) return true;
                if (in.text.isFull()) return in.fail();
                in.take(b, 1);
            }
            return in.fail();
        }

        private static boolean isBare(int b) {
            return (isPrinted(b) || b == 9) && b != '"' && b != ',';
        }
    }

    /** Form 3. */
    private static final class Tabs extends Lines {
        Tabs(Scanner in, Bytes out, Terms terms) {
            super(in, out, terms, "?", '\t', "\n");
        }

        void printTerm(int t) {
            switch (terms.kindOf(t)) {
                case NODE: printBetween("<", t, ">"); break;
                case BLANK: printBetween("_:", t, ""); break;
                case PLAIN: printBetween("\"", t, "\""); break;
                case TAGGED: printBetween("\"", t, "\"@"); terms.printExtra(t, out); break;
                default: printBetween("\"", t, "\"^^"); terms.printExtra(t, out);
            }
        }

        /** Nodes and blanks have no byte that is escaped. */
        private void printBetween(String before, int t, String behind) {
            out.addAll(before);
            terms.printBackslashed(t, out);
            out.addAll(behind);
        }

        boolean parseTerm() {
            switch (in.next()) {
                case '<': return in.must("<") && parseNode();
                case '_': return in.must("_:") && parseBlank();
                case '"': return in.must("\"") && parseLiteral();
                default: return true;
            }
        }

        /** Here a text stands as it is, so each of its bytes may; that it is no node is seen at its end. */
        private boolean parseNode() {
            int from = in.place;
            in.beginTerm(NODE);
            for (int i = 0; i <= MOST_TEXT; i++) {
                int b = in.next();
                if (b == '>') return in.text.isOf(NODE) ? in.took('>') : in.failAt(from);
                if (in.text.isFull() || !isTextByte(b)) return in.fail();
                in.take(b, 1);
            }
            return in.fail();
        }

        private boolean parseLiteral() {
            in.beginTerm(PLAIN);
            if (!in.backslashedText(false)) return false;
            switch (in.next()) {
                case '@': return in.must("@") && in.extraWord(TAGGED);
                case '^': return in.must("^^") && in.extraWord(TYPED);
                default: return true;
            }
        }
    }
}
