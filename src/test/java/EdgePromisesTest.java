import java.util.function.IntSupplier;

/** The document's promises 1 to 20: for each sentence that names a limit or a refused call, what lies on both sides of it. */
final class EdgePromisesTest {
    private static final int BAD = ResultForms.BAD;
    private static final int NO = ResultForms.NO;
    private static final int FULL = ResultForms.FULL;
    private static final int MIN = Integer.MIN_VALUE;
    private static final int MAX = Integer.MAX_VALUE;
    private static final int[] KINDS = {0, 1, 2, 3, 4};
    private static final int[] FORMS = {0, 1, 2, 3};
    private static final int[] NO_FORM = {-1, 4, 5, MIN, MAX, 1 << 8, 1 << 16};

    public static void main(String[] args) {
        mostCalls();
        newObjects();
        typesLowest();
        typesBad();
        typesFull();
        passesNothing();
        passesFull();
        termTakesTheTape();
        termKinds();
        termExtras();
        termTexts();
        termFull();
        ofParts();
        ofNone();
        variableTakesTheTape();
        variableBad();
        variableNo();
        variableFull();
        rows();
        rowOfNothing();
        puts();
        putBad();
        clears();
        values();
        writeBad();
        writeFull();
        sayBad();
        ats();
        readTakesTheTape();
        readBad();
        readFaults();
        readFull();
        readFullOrFault();
        hears();
        hearBad();
        keeps();
        sameNo();
        sameNames();
        sameRows();
        lacksNo();
        lacksTakesAway();
        lacksNames();
        distinct();
        counts();
        Subject.end();
    }

    private static final String TABLE_OUT = "x,y\r\nn,_:b\r\n,p\r\nt,d\r\n";

    /** Two variables, a term of each kind, three rows; the table is kept, and form 2 of it is in the out. */
    private static Subject table() {
        Subject s = new Subject();
        s.variable("x");
        s.variable("y");
        s.term(0, 0, "n");
        s.term(1, 0, "b");
        s.term(2, 0, "p");
        s.term(3, 1, "t");
        s.term(4, 1, "d");
        s.row(0, 1);
        s.row(-1, 2);
        s.row(3, 4);
        s.x.keep();
        s.x.write(2);
        return s;
    }

    private static void mostCalls() {
        Subject.sentence("An object is used for at most 512 calls after it has been made");
        ResultForms typed = new ResultForms();
        for (int i = 1; i <= 512; i++) Subject.due("call " + i, typed.type('a', 1), i);
        ResultForms said = new ResultForms();
        for (int i = 1; i <= 512; i++) Subject.due("call " + i, said.say(i % 2, true), i % 2 == 0 ? 26 : 53);
        ResultForms x = new Filled(2, 3000).s.x;
        for (int i = 0; i < 80; i++) {
            Subject.due("write", x.write(2), 3000);
            Subject.due("pass", x.pass(), 3000);
            Subject.due("read", x.read(2), 24);
        }
    }

    // promise 1

    private static void newObjects() {
        Subject.sentence("An empty tape, an empty out; a table without variables and rows; nothing kept; no terms.");
        Subject used = table();
        used.tape("z");
        Subject s = new Subject();
        for (int what = 0; what <= 4; what++) Subject.due("count(" + what + ")", s.x.count(what), 0);
        Subject.due("pass", s.x.pass(), 0);
        Subject.due("at(0)", s.x.at(0), BAD);
        Subject.due("value(0, 0)", s.x.value(0, 0), NO);
        Subject.due("same(true)", s.x.same(true), NO);
        Subject.due("same(false)", s.x.same(false), NO);
        Subject.due("lacks(0)", s.x.lacks(0), NO);
        Subject.due("of(0, 0)", s.x.of(0, 0), BAD);
        Subject.due("clear", s.x.clear(), 0);
        Subject.due("distinct", s.x.distinct(), 0);
        Subject.due("form 2", s.written(2), "\r\n");
        Subject.due("the other object", used.x.count(3), 1);
        Subject.due("the other object", used.written(2), TABLE_OUT);
    }

    // promise 2

    /** The bytes that a call types, as the text of a term. */
    private static void types(long bytes, int n, String text) {
        Subject s = new Subject();
        Subject.due("type(" + bytes + ", " + n + ")", s.x.type(bytes, n), n);
        Subject.due("term", s.x.term(2, 0), 0);
        Subject.due("what type(" + bytes + ", " + n + ") typed", s.told(0), "2/0/" + text);
    }

    private static void typesLowest() {
        Subject.sentence("The lowest n bytes of bytes, the highest of them first, come behind the tape: its length.");
        String all = "abcdefgh";
        for (int n = 1; n <= 8; n++) types(0x6162636465666768L, n, all.substring(8 - n));
        for (int n = 1; n <= 7; n++) types(0x8062636465666768L, n, all.substring(8 - n));
        types(-1L << 8 | 'a', 1, "a");
        types(-1L << 32 | 0x7e7e7e7eL, 4, "~~~~");
        types(Long.MIN_VALUE | 0x20202020202020L, 7, Subject.times(" ", 7));
        types(0x7e7e7e7e7e7e7e7eL, 8, Subject.times("~", 8));
        Subject s = new Subject();
        Subject.due("a byte 0", s.x.type(0, 1), 1);
        Subject.due("is no text", s.x.term(2, 0), BAD);
        for (int n = 1; n <= 8; n++) Subject.due("bytes 255", s.x.type(-1, n), n * (n + 1) / 2);
        s.x.term(2, 0);
        s.x.type('a', 1);
        Subject.due("behind the tape", s.x.type('b', 1), 2);
        Subject.due("term", s.x.term(2, 0), 0);
        Subject.due("text", s.told(0), "2/0/ab");
    }

    private static void typesBad() {
        Subject.sentence("BAD when n is not 1 .. 8");
        Subject s = table();
        s.tape("ab");
        for (int n : new int[] {0, -1, 9, 10, 64, -8, MIN, MIN + 8, MAX, 1 << 8, (1 << 8) + 1}) {
            s.refused("type of " + n, BAD, () -> s.x.type(0x6161616161616161L, n));
        }
        Subject.due("type of 1", s.x.type('c', 1), 3);
        Subject.due("the tape is ab and c", s.x.variable(), NO);
    }

    private static void typesFull() {
        Subject.sentence("type: FULL (nothing comes).");
        int[] widths = {1, 2, 3, 4, 5, 6, 7, 8};
        for (int n : widths) {
            Subject s = new Subject();
            s.tape(Subject.times("a", 3000 - n));
            for (int more : widths) {
                if (more > n) s.refused("type of " + more + " where " + n + " are left", FULL, () -> s.x.type(0, more));
            }
            Subject.due("type of " + n, s.x.type(0, n), 3000);
            s.refused("type of 1 on a full tape", FULL, () -> s.x.type(0, 1));
            s.refused("type of 8 on a full tape", FULL, () -> s.x.type(0, 8));
            s.refused("type of 9 on a full tape", BAD, () -> s.x.type(0, 9));
            s.refused("type of 0 on a full tape", BAD, () -> s.x.type(0, 0));
        }
    }

    // promise 3

    private static void passesNothing() {
        Subject.sentence("What is in the out comes behind the tape: its length.");
        Subject s = new Subject();
        Subject.due("nothing on nothing", s.x.pass(), 0);
        s.tape("a");
        Subject.due("nothing on one", s.x.pass(), 1);
        s.tape(Subject.times("a", 2999));
        Subject.due("nothing on a full tape", s.x.pass(), 3000);
        Subject.due("the tape is taken", s.x.term(2, 0), BAD);
        s.x.write(3);
        Subject.due("one byte", s.x.pass(), 1);
        Subject.due("the out stays", s.out(), "\n");
        Subject.due("one more", s.x.pass(), 2);
        Subject.due("they are two lines", s.x.read(3), 1);
        s.x.say(0, true);
        s.x.pass();
        Subject.due("what was written", s.x.hear(0), 1);
    }

    private static void passesFull() {
        Subject.sentence("pass: FULL (nothing comes).");
        Subject s = new Filled(2, 3000).s;
        s.x.write(2);
        Subject.due("3000 on nothing", s.x.pass(), 3000);
        Subject.due("3000 on 3000", s.x.pass(), FULL);
        Subject.due("the tape", s.x.count(3), 3000);
        Subject.due("it is what was written", s.x.read(2), 24);
        s.tape("a");
        Subject.due("3000 on 1", s.x.pass(), FULL);
        Subject.due("the tape", s.x.count(3), 1);
        Subject.due("the out", s.x.count(4), 3000);
        s.x.say(0, true);
        s.tape(Subject.times("a", 2973));
        Subject.due("26 on 2974", s.x.pass(), 3000);
        s.x.term(2, 0);
        s.tape(Subject.times("a", 2975));
        Subject.due("26 on 2975", s.x.pass(), FULL);
        Subject.due("the tape", s.x.count(3), 2975);
    }

    // promise 4

    private static void termTakesTheTape() {
        Subject.sentence("The tape, which is empty then whatever the answer, as the text of a term: its number.");
        Subject s = table();
        Subject.due("a new one", s.term(2, 0, "new"), 5);
        Subject.due("the tape", s.x.count(3), 0);
        Subject.due("a like one", s.term(2, 0, "new"), 5);
        Subject.due("the tape", s.x.count(3), 0);
        s.refusedTaking("a wrong kind", BAD, "abc", () -> s.x.term(5, 0));
        s.refusedTaking("a wrong tag", BAD, "abc", () -> s.x.term(3, 676));
        s.refusedTaking("a wrong text", BAD, Subject.times("a", 3000), () -> s.x.term(2, 0));
        Subject.due("the empty tape as a text", s.x.term(2, 0), 6);
        Subject.due("its length", s.x.of(6, 2), 0);
    }

    private static void termKinds() {
        Subject.sentence("BAD: no such kind");
        Subject s = table();
        for (int kind : new int[] {-1, 5, 6, -5, MIN, MAX, 1 << 8, 1 << 16}) {
            s.refusedTaking("kind " + kind, BAD, "abc", () -> s.x.term(kind, 0));
            s.refusedTaking("kind " + kind + " of nothing", BAD, "", () -> s.x.term(kind, 0));
        }
        for (int kind = 0; kind <= 4; kind++) Subject.due("kind " + kind, s.term(kind, 0, "abc"), 5 + kind);
    }

    private static void termExtras() {
        Subject.sentence("BAD: extra is no tag (kind 3) or type (4), or not 0 (others)");
        Subject s = table();
        for (int kind : KINDS) {
            int most = kind == 3 ? 675 : kind == 4 ? 3 : 0;
            for (int extra : new int[] {-1, most + 1, MIN, MAX, 1 << 16}) {
                s.refusedTaking("kind " + kind + " with " + extra, BAD, "abc", () -> s.x.term(kind, extra));
            }
            Subject.due("kind " + kind + " with " + most, s.term(kind, most, "abc"), 5 + kind);
        }
    }

    private static void termTexts() {
        Subject.sentence("BAD: it is no text of that kind");
        Subject s = table();
        String[][] wrong = {{"", "a b", "<", "\t", Subject.times("a", 21)}, {"", "A", "a-", "_:a", "abcdefghi"}, {"\u0000", "\u007f", "\u000b", Subject.times("a", 21)},
            {"\u001f", "\u0080", Subject.times(" ", 21)}, {"\u0008", "\u00ff", Subject.times("\n", 21)}};
        for (int kind : KINDS) {
            for (String text : wrong[kind]) s.refusedTaking("kind " + kind + " of " + text, BAD, text, () -> s.x.term(kind, 0));
        }
    }

    private static void termFull() {
        Subject.sentence("term: FULL");
        Subject s = new Subject();
        for (int i = 0; i < 59; i++) s.term(2, 0, "t" + i);
        Subject.due("term 59", s.term(0, 0, "u"), 59);
        s.x.keep();
        for (int kind : KINDS) {
            s.refusedTaking("term 60", FULL, "new", () -> s.x.term(kind, 0));
            s.refusedTaking("a wrong one when there are 60", BAD, "new", () -> s.x.term(kind, 676));
            s.refusedTaking("a wrong one when there are 60", BAD, Subject.times("a", 21), () -> s.x.term(kind, 0));
        }
        Subject.due("a like one", s.term(0, 0, "u"), 59);
        Subject.due("a like one", s.term(2, 0, "t0"), 0);
    }

    // promise 5

    private static void ofParts() {
        Subject.sentence("Of a term its kind (what = 0), tag or type (1; 0 of others), how many bytes (2), byte what - 3.");
        Subject s = new Subject();
        int[][] terms = {{0, 0}, {1, 0}, {2, 0}, {3, 675}, {4, 3}};
        for (int t = 0; t < 5; t++) {
            s.term(terms[t][0], terms[t][1], "ab");
            Subject.due("kind", s.x.of(t, 0), terms[t][0]);
            Subject.due("tag or type", s.x.of(t, 1), terms[t][1]);
            Subject.due("length", s.x.of(t, 2), 2);
            Subject.due("first byte", s.x.of(t, 3), 'a');
            Subject.due("last byte", s.x.of(t, 4), 'b');
            Subject.due("byte behind", s.x.of(t, 5), BAD);
        }
        s.term(2, 0, "abcdefghijklmnopqrst");
        for (int i = 0; i < 20; i++) Subject.due("byte " + i, s.x.of(5, 3 + i), 'a' + i);
        Subject.due("byte 20", s.x.of(5, 23), BAD);
    }

    private static void ofNone() {
        Subject.sentence("of: BAD: none such.");
        Subject s = table();
        s.term(2, 0, "");
        for (int what : new int[] {-1, MIN, MIN + 2, MIN + 3, 4, MAX, MAX - 1}) s.refused("what " + what, BAD, () -> s.x.of(0, what));
        s.refused("byte 0 of nothing", BAD, () -> s.x.of(5, 3));
        for (int term : new int[] {-1, 6, 60, MIN, MAX}) {
            for (int what : new int[] {0, 1, 2, 3}) s.refused("term " + term, BAD, () -> s.x.of(term, what));
        }
        Subject.due("the last one", s.x.of(5, 0), 2);
    }

    // promise 6

    private static void variableTakesTheTape() {
        Subject.sentence("The tape, which is empty then whatever the answer, as the name of one more variable: its number.");
        Subject s = new Subject();
        for (int v = 0; v < 6; v++) {
            Subject.due("variable " + v, s.variable("" + (char) ('z' - v)), v);
            Subject.due("the tape", s.x.count(3), 0);
        }
        s.x.keep();
        s.refusedTaking("no name", BAD, "A", () -> s.x.variable());
        s.refusedTaking("one that is there", BAD, "z", () -> s.x.variable());
        s.refusedTaking("one more", FULL, "a", () -> s.x.variable());
        s.x.row();
        s.x.keep();
        s.refusedTaking("with a row", NO, "a", () -> s.x.variable());
        Subject.due("names", s.written(2), "z,y,x,w,v,u\r\n,,,,,\r\n");
    }

    private static void variableBad() {
        Subject.sentence("BAD: it is no name, or there is one");
        for (int rows = 0; rows <= 1; rows++) {
            for (int variables : new int[] {1, 6}) {
                Subject s = new Subject();
                for (int v = 0; v < variables; v++) s.variable("" + (char) ('a' + v));
                for (int r = 0; r < rows; r++) s.x.row();
                s.x.keep();
                for (String name : new String[] {"", "A", "1", "a1", "a ", " a", "?a", "abcdefghi", "\u00e1", "a", "" + (char) ('a' + variables - 1)}) {
                    s.refusedTaking("variable " + name + " of " + variables + ", " + rows + " rows", BAD, name, () -> s.x.variable());
                }
            }
        }
        Subject s = new Subject();
        s.refusedTaking("no name of no variables", BAD, "", () -> s.x.variable());
    }

    private static void variableNo() {
        Subject.sentence("NO: there are rows");
        for (int variables : new int[] {0, 1, 5, 6}) {
            Subject s = new Subject();
            for (int v = 0; v < variables; v++) s.variable("" + (char) ('a' + v));
            for (int r = 0; r < 24; r++) {
                s.x.row();
                if (r > 1 && r < 23) continue;
                s.x.keep();
                s.refusedTaking("a variable with " + (r + 1) + " rows", NO, "new", () -> s.x.variable());
            }
        }
        Subject s = new Subject();
        s.x.row();
        s.x.clear();
        Subject.due("when they have gone", s.variable("a"), 0);
        s.x.row();
        s.x.row();
        s.x.distinct();
        Subject.due("when one is left", s.variable("b"), NO);
        s.read(2, "a\r\nb\r\n");
        Subject.due("when they have been read", s.variable("b"), NO);
        s.read(2, "a\r\n");
        Subject.due("when none has been read", s.variable("b"), 1);
    }

    private static void variableFull() {
        Subject.sentence("variable: FULL");
        Subject s = new Subject();
        for (int v = 0; v < 5; v++) s.variable("" + (char) ('a' + v));
        Subject.due("a sixth", s.variable("f"), 5);
        s.x.keep();
        s.refusedTaking("a seventh", FULL, "g", () -> s.x.variable());
        s.refusedTaking("a seventh again", FULL, "abcdefgh", () -> s.x.variable());
        s.x.clear();
        Subject.due("a first", s.variable("g"), 0);
    }

    // promise 7

    private static void rows() {
        Subject.sentence("A row more, of nothing: its number. FULL.");
        for (int variables : new int[] {0, 1, 6}) {
            Subject s = new Subject();
            for (int v = 0; v < variables; v++) s.variable("" + (char) ('a' + v));
            for (int r = 0; r < 24; r++) Subject.due("row " + r, s.x.row(), r);
            s.x.keep();
            s.refused("row 24", FULL, () -> s.x.row());
            s.refused("row 24 again", FULL, () -> s.x.row());
            Subject.due("distinct", s.x.distinct(), 23);
            Subject.due("then there is room", s.x.row(), 1);
            s.x.clear();
            Subject.due("and again", s.x.row(), 0);
        }
    }

    /** A row that goes and comes again has nothing of what it had. */
    private static void rowOfNothing() {
        Subject.sentence("A row more, of nothing");
        Subject s = table();
        s.x.clear();
        s.variable("x");
        s.variable("y");
        for (int r = 0; r < 3; r++) s.x.row();
        Subject.due("behind clear", s.toldTable(), "2 variables | none none | none none | none none");
        for (int r = 0; r < 3; r++) s.x.put(r, 0, 2);
        s.x.distinct();
        s.x.row();
        Subject.due("behind distinct", s.toldTable(), "2 variables | 2/0/p none | none none");
        s.read(2, "x,y\r\na,b\r\n");
        s.x.row();
        Subject.due("behind read", s.toldTable(), "2 variables | 2/0/a 2/0/b | none none");
    }

    // promise 8

    private static void puts() {
        Subject.sentence("A row gives a variable a term, or none (-1): 1; 0 when it was so.");
        Subject s = table();
        Subject.due("a term", s.x.put(0, 0, 4), 1);
        s.x.keep();
        s.refused("the same", 0, () -> s.x.put(0, 0, 4));
        Subject.due("another", s.x.put(0, 0, 0), 1);
        Subject.due("none", s.x.put(0, 0, -1), 1);
        s.x.keep();
        s.refused("none again", 0, () -> s.x.put(0, 0, -1));
        s.refused("none where was none", 0, () -> s.x.put(1, 0, -1));
        Subject.due("the last cell", s.x.put(2, 1, 3), 1);
        Subject.due("the table", s.toldTable(), "2 variables | none 1/0/b | none 2/0/p | 3/1/t 3/1/t");
    }

    private static void putBad() {
        Subject.sentence("put: BAD.");
        Subject s = table();
        int[][] wrong = {{-1, 0, 0}, {3, 0, 0}, {24, 0, 0}, {MIN, 0, 0}, {MAX, 0, 0}, {0, -1, 0}, {0, 2, 0}, {0, 6, 0}, {0, MIN, 0}, {0, MAX, 0},
            {0, 0, -2}, {0, 0, 5}, {0, 0, 60}, {0, 0, MIN}, {0, 0, MAX}, {-1, -1, -1}, {3, 2, -1}, {-1, 0, -1}, {0, 2, -1}, {1 << 30, 0, 0},
            {0, 1 << 30, 0}, {MAX / 6 + 1, 0, 0}, {-1, 6, 0}, {1, -6, 0}};
        for (int[] w : wrong) s.refused("put " + w[0] + " " + w[1] + " " + w[2], BAD, () -> s.x.put(w[0], w[1], w[2]));
        Subject empty = new Subject();
        empty.term(2, 0, "a");
        empty.refused("no row, no variable", BAD, () -> empty.x.put(0, 0, 0));
        empty.variable("x");
        empty.refused("no row", BAD, () -> empty.x.put(0, 0, 0));
        Subject bare = new Subject();
        bare.row();
        bare.refused("no variable", BAD, () -> bare.x.put(0, 0, -1));
    }

    // promise 9

    private static void clears() {
        Subject.sentence("The table has no variables and rows: how many rows it had.");
        Subject s = table();
        s.tape("ab");
        Subject.due("three rows", s.x.clear(), 3);
        Subject.due("none then", s.x.clear(), 0);
        Subject.due("variables", s.x.count(0), 0);
        Subject.due("rows", s.x.count(1), 0);
        Subject.due("terms", s.x.count(2), 5);
        Subject.due("tape", s.x.count(3), 2);
        Subject.due("out", s.x.count(4), TABLE_OUT.length());
        Subject.due("the kept one stays", s.x.same(true), 0);
        Subject.due("what is on the tape, as a name", s.x.variable(), 0);
        Subject.due("it is ab", s.written(2), "ab\r\n");
        for (int r = 0; r < 24; r++) s.x.row();
        Subject.due("24 rows", s.x.clear(), 24);
    }

    // promise 10

    private static void values() {
        Subject.sentence("The term of a variable in a row; -1 for none. NO: there is no such row, variable.");
        Subject s = table();
        int[][] want = {{0, 1}, {-1, 2}, {3, 4}};
        for (int r = 0; r < 3; r++) {
            for (int v = 0; v < 2; v++) Subject.due("value", s.x.value(r, v), want[r][v]);
        }
        int[][] wrong = {{-1, 0}, {3, 0}, {24, 0}, {MIN, 0}, {MAX, 0}, {0, -1}, {0, 2}, {0, 6}, {0, MIN}, {0, MAX}, {-1, -1}, {3, 2}, {1, -1}, {-1, 6},
            {MAX / 6 + 1, 0}, {1 << 30, 1 << 30}};
        for (int[] w : wrong) s.refused("value " + w[0] + " " + w[1], NO, () -> s.x.value(w[0], w[1]));
        Subject bare = new Subject();
        bare.row();
        Subject.due("no variable", bare.x.value(0, 0), NO);
        Subject rowless = new Subject();
        rowless.variable("x");
        Subject.due("no row", rowless.x.value(0, 0), NO);
    }

    // promises 11, 12, 13

    private static void writeBad() {
        Subject.sentence("write: BAD: no such form");
        Subject s = table();
        s.tape("ab");
        for (int form : NO_FORM) s.refused("write " + form, BAD, () -> s.x.write(form));
        for (int form : FORMS) {
            Subject.due("write " + form, s.x.write(form), s.x.count(4));
            Subject.due("the tape stays", s.x.count(3), 2);
            Subject.due("the table stays", s.x.same(true), 1);
        }
        Subject.due("form 2", s.x.write(2), TABLE_OUT.length());
    }

    private static void writeFull() {
        Subject.sentence("how many bytes the out has .. FULL: it would have more than 3000 (it stays)");
        for (int form : FORMS) {
            Filled most = new Filled(form, 3000);
            Subject.due("form " + form + " of 3000", most.s.x.write(form), 3000);
            for (int i = 0; i < 3000; i += 21) Subject.due("byte " + i, most.s.x.at(i), most.text.charAt(i));
            Subject.due("the last byte", most.s.x.at(2999), most.text.charAt(2999));
            Subject.due("behind it", most.s.x.at(3000), BAD);
            for (int bytes : new int[] {3001, 3002, 3060}) {
                Subject more = new Filled(form, bytes).s;
                more.x.keep();
                more.refused("form " + form + " of " + bytes, FULL, () -> more.x.write(form));
                more.x.say(1, false);
                more.refused("form " + form + " of " + bytes, FULL, () -> more.x.write(form));
                Subject.due("the out stays", more.out(), "<sparql><head></head><boolean>false</boolean></sparql>");
            }
        }
    }

    private static void sayBad() {
        Subject.sentence("say: BAD: form is not 0 or 1.");
        Subject s = table();
        s.tape("ab");
        for (int form : NO_FORM) s.refused("say " + form, BAD, () -> s.x.say(form, true));
        s.refused("say 2", BAD, () -> s.x.say(2, true));
        s.refused("say 3", BAD, () -> s.x.say(3, false));
        Subject.due("say 0", s.x.say(0, true), 26);
        Subject.due("say 1", s.x.say(1, true), 53);
        Subject.due("the tape stays", s.x.count(3), 2);
        Subject.due("the table stays", s.x.same(true), 1);
    }

    private static void ats() {
        Subject.sentence("Byte i of the out. BAD.");
        Subject s = new Subject();
        for (int i : new int[] {0, -1, 1, 2999, 3000, MIN, MAX}) s.refused("at " + i + " of nothing", BAD, () -> s.x.at(i));
        s.x.say(0, true);
        String truth = "{\"head\":{},\"boolean\":true}";
        for (int i = 0; i < 26; i++) Subject.due("at " + i, s.x.at(i), truth.charAt(i));
        for (int i : new int[] {-1, 26, 27, 2999, 3000, MIN, MAX}) s.refused("at " + i + " of 26", BAD, () -> s.x.at(i));
        s.x.write(3);
        Subject.due("at 0 of 1", s.x.at(0), 10);
        s.refused("at 1 of 1, where more was before", BAD, () -> s.x.at(1));
    }

    // promise 14

    private static final String[] GOOD = {"{\"head\":{\"vars\":[\"z\"]},\"results\":{\"bindings\":[{\"z\":{\"type\":\"literal\",\"value\":\"new\"}}]}}",
        "<sparql><head><variable name=\"z\"/></head><results><result><binding name=\"z\"><literal>new</literal></binding></result></results></sparql>",
        "z\r\nnew\r\n", "?z\n\"new\"\n"};

    private static void readTakesTheTape() {
        Subject.sentence("The tape, which is empty then whatever the answer, is read: it is the table: how many rows.");
        for (int form : FORMS) {
            Subject s = table();
            Subject.due("read", s.read(form, GOOD[form]), 1);
            Subject.due("the tape", s.x.count(3), 0);
            Subject.due("the table", s.toldTable(), "1 variables | 2/0/new");
            Subject.due("its number", s.x.value(0, 0), 5);
            Subject.due("the out stays", s.out(), TABLE_OUT);
            Subject.due("the kept one stays", s.read(3, "?x\t?y\n<n>\t_:b\n\t\"p\"\n\"t\"@ab\t\"d\"^^real\n"), 3);
            Subject.due("the kept one stays", s.x.same(true), 1);
            Subject.due("read again", s.read(form, GOOD[form]), 1);
            Subject.due("its number", s.x.value(0, 0), 5);
            Subject.due("its name", s.written(2), "z\r\nnew\r\n");
        }
        for (int form : FORMS) {
            Subject s = table();
            s.x.clear();
            s.x.write(form);
            s.read(2, "x\r\na\r\n");
            s.x.pass();
            Subject.due("a table of nothing", s.x.read(form), 0);
            Subject.due("variables", s.x.count(0), 0);
            Subject.due("rows", s.x.count(1), 0);
        }
    }

    private static void readBad() {
        Subject.sentence("read: BAD: no such form.");
        Subject s = table();
        for (int form : NO_FORM) {
            s.refusedTaking("read " + form, BAD, GOOD[2], () -> s.x.read(form));
            s.refusedTaking("read " + form + " of nothing", BAD, "", () -> s.x.read(form));
        }
    }

    private static void readFaults() {
        Subject.sentence("-10 less the place of the first fault (the table and terms stay with both)");
        String[] lastFault = {GOOD[0] + "x", GOOD[1] + "x", GOOD[2] + "other\r\n\"", GOOD[3] + "\"other\"\n<"};
        for (int form : FORMS) {
            Subject s = table();
            s.refusedTaking("an empty tape", -10, "", () -> s.x.read(form));
            s.refusedTaking("a first byte", -10, "\u0000", () -> s.x.read(form));
            int place = form < 2 ? lastFault[form].length() - 1 : lastFault[form].length();
            s.refusedTaking("behind good terms", -10 - place, lastFault[form], () -> s.x.read(form));
        }
    }

    /** 58 terms; and tables of two and of three new ones in each form. */
    private static void readFull() {
        Subject.sentence("FULL when there is none, but there would be more than 60 terms (the table and terms stay with both)");
        for (int form : FORMS) {
            Subject source = new Subject();
            source.read(2, "z,w\r\nm,n\r\nt7,m\r\nn,\r\n");
            String two = source.written(form);
            source.read(2, "z,w\r\nm,n\r\no,m\r\n");
            String three = source.written(form);
            source.read(2, "z\r\nt7\r\nt0\r\n");
            String known = source.written(form);
            source.read(2, "z\r\nt7\r\nt0\r\no\r\n");
            String one = source.written(form);
            Subject s = new Subject();
            for (int i = 0; i < 58; i++) s.term(2, 0, "t" + i);
            s.variable("x");
            s.row(57);
            s.x.keep();
            s.refusedTaking("form " + form + ", three new ones", FULL, three, () -> s.x.read(form));
            Subject.due("form " + form + ", two new ones", s.read(form, two), 3);
            Subject.due("terms", s.x.count(2), 60);
            Subject.due("the table", s.toldTable(), "2 variables | 2/0/m 2/0/n | 2/0/t7 2/0/m | 2/0/n none");
            Subject.due("numbers", s.x.value(0, 1), 59);
            s.x.keep();
            s.refusedTaking("form " + form + ", one more", FULL, one, () -> s.x.read(form));
            Subject.due("form " + form + ", none more", s.read(form, known), 2);
            Subject.due("numbers", s.x.value(0, 0), 7);
        }
    }

    private static void readFullOrFault() {
        Subject.sentence("FULL when there is none [no fault], but there would be more than 60 terms");
        Subject s = new Subject();
        for (int i = 0; i < 60; i++) s.term(2, 0, "t" + i);
        s.x.keep();
        for (int form : FORMS) {
            String good = GOOD[form];
            s.refusedTaking("one more", FULL, good, () -> s.x.read(form));
            int place = form < 2 ? good.length() : good.length() + 2;
            s.refusedTaking("one more, then a fault", -10 - place, good + (form < 2 ? "x" : form == 2 ? "\"a" : "_:"), () -> s.x.read(form));
        }
        StringBuilder all = new StringBuilder("a,b,c,d,e,f\r\n");
        for (int i = 0; i < 144; i++) all.append("w").append(i).append(i % 6 == 5 ? "\r\n" : ",");
        s.refusedTaking("144 more", FULL, all.toString(), () -> s.x.read(2));
        s.refusedTaking("144 more, then a row too many", -10 - all.length(), all + "a", () -> s.x.read(2));
        Subject fresh = new Subject();
        fresh.refusedTaking("144 of no terms", FULL, all.toString(), () -> fresh.x.read(2));
        String sixty = all.substring(0, all.indexOf("w60"));
        String sixtyOne = all.substring(0, all.indexOf("w66"));
        fresh.refusedTaking("66 of no terms", FULL, sixtyOne, () -> fresh.x.read(2));
        Subject.due("60 of no terms", fresh.read(2, sixty), 10);
        Subject.due("terms", fresh.x.count(2), 60);
        Subject.due("the last one", fresh.toldCell(9, 5), "2/0/w59");
    }

    // promise 15

    private static void hears() {
        Subject.sentence("The tape likewise as a truth: 1, 0; -10 less the place.");
        Subject s = table();
        String[][] truths = {{"{\"head\":{},\"boolean\":false}", "{\"head\":{},\"boolean\":true}"},
            {"<sparql><head></head><boolean>false</boolean></sparql>", "<sparql><head></head><boolean>true</boolean></sparql>"}};
        for (int form : new int[] {0, 1}) {
            for (int v = 0; v <= 1; v++) {
                String truth = truths[form][v];
                s.refusedTaking("hear", v, truth, () -> s.x.hear(form));
                s.refusedTaking("one byte more", -10 - truth.length(), truth + "x", () -> s.x.hear(form));
                s.refusedTaking("one byte less", -10 - (truth.length() - 1), truth.substring(0, truth.length() - 1), () -> s.x.hear(form));
            }
            s.refusedTaking("an empty tape", -10, "", () -> s.x.hear(form));
            s.refusedTaking("a table", form == 0 ? -19 : -32, GOOD[form].replace("<variable name=\"z\"/>", ""), () -> s.x.hear(form));
            s.refusedTaking("a truth for a table", form == 0 ? -19 : -32, truths[form][1], () -> s.x.read(form));
        }
    }

    private static void hearBad() {
        Subject.sentence("hear: BAD: form is not 0 or 1");
        Subject s = table();
        for (int form : NO_FORM) s.refusedTaking("hear " + form, BAD, "{\"head\":{},\"boolean\":true}", () -> s.x.hear(form));
        s.refusedTaking("hear 2", BAD, "true\r\n", () -> s.x.hear(2));
        s.refusedTaking("hear 3", BAD, "", () -> s.x.hear(3));
    }

    // promise 16

    private static void keeps() {
        Subject.sentence("The table is kept, beside the one that goes on: how many rows.");
        Subject s = new Subject();
        Subject.due("nothing", s.x.keep(), 0);
        Subject.due("same", s.x.same(true), 1);
        for (int r = 1; r <= 24; r++) {
            s.x.row();
            Subject.due("not with a row more", s.x.same(false), 0);
            Subject.due("kept", s.x.keep(), r);
            Subject.due("same", s.x.same(true), 1);
        }
        Subject t = table();
        t.tape("ab");
        Subject.due("kept again", t.x.keep(), 3);
        Subject.due("variables", t.x.count(0), 2);
        Subject.due("rows", t.x.count(1), 3);
        Subject.due("tape", t.x.count(3), 2);
        Subject.due("out", t.x.count(4), TABLE_OUT.length());
        changesAlone(t, () -> t.x.put(0, 0, 4), () -> t.x.put(0, 0, 0));
        changesAlone(t, () -> t.x.put(2, 1, -1), () -> t.x.put(2, 1, 4));
        t.x.term(2, 0);
        changesAlone(t, () -> t.x.clear(), () -> t.read(3, "?x\t?y\n<n>\t_:b\n\t\"p\"\n\"t\"@ab\t\"d\"^^real\n"));
        Subject.due("a row more", t.x.row(), 3);
        Subject.due("in the table alone", t.x.same(false), 0);
    }

    private static void changesAlone(Subject s, IntSupplier change, IntSupplier back) {
        change.getAsInt();
        Subject.due("a change of the table alone", s.x.same(true), 0);
        back.getAsInt();
        Subject.due("and back", s.x.same(true), 1);
    }

    // promises 17 and 18

    private static void sameNo() {
        Subject.sentence("same: NO: none is kept.");
        Subject s = new Subject();
        s.refused("nothing, nothing kept", NO, () -> s.x.same(true));
        s.variable("x");
        s.row(s.term(2, 0, "a"));
        s.refused("a table, nothing kept", NO, () -> s.x.same(true));
        s.refused("a table, nothing kept", NO, () -> s.x.same(false));
        s.x.clear();
        s.refused("cleared, nothing kept", NO, () -> s.x.same(false));
        s.x.keep();
        Subject.due("kept", s.x.same(true), 1);
        Subject.due("kept", s.x.same(false), 1);
        s.x.row();
        s.x.clear();
        Subject.due("still kept", s.x.same(false), 1);
    }

    /** Both tables are told in form 2. */
    private static Subject against(String kept, String table) {
        Subject s = new Subject();
        s.read(2, kept);
        s.x.keep();
        s.read(2, table);
        return s;
    }

    private static void compared(String kept, String table, int ordered, int unordered) {
        Subject s = against(kept, table);
        String what = Subject.shown(kept) + " against " + Subject.shown(table);
        Subject.due("same(true): " + what, s.x.same(true), ordered);
        Subject.due("same(false): " + what, s.x.same(false), unordered);
    }

    private static void sameNames() {
        Subject.sentence("Whether the kept table has the same names in the same order");
        compared("\r\n", "\r\n", 1, 1);
        compared("x\r\n", "x\r\n", 1, 1);
        compared("x\r\n", "y\r\n", 0, 0);
        compared("x\r\n", "\r\n", 0, 0);
        compared("\r\n", "x\r\n", 0, 0);
        compared("x,y\r\n", "y,x\r\n", 0, 0);
        compared("x,y\r\n,\r\n", "y,x\r\n,\r\n", 0, 0);
        compared("x,y\r\n", "x\r\n", 0, 0);
        compared("x\r\n", "x,y\r\n", 0, 0);
        compared("abcdefgh\r\n", "abcdefgi\r\n", 0, 0);
        compared("abcdefgh\r\n", "abcdefg\r\n", 0, 0);
        compared("bbcdefgh\r\n", "abcdefgh\r\n", 0, 0);
        compared("a,b,c,d,e,f\r\n", "a,b,c,d,e,g\r\n", 0, 0);
        compared("a,b,c,d,e,f\r\n,,,,,q\r\n", "a,b,c,d,e,f\r\n,,,,,q\r\n", 1, 1);
        compared("\r\n\r\n", "x\r\n\r\n", 0, 0);
        Subject s = against("x\r\na\r\n", "x,y\r\na,b\r\n");
        Subject.due("another name more", s.x.same(true), 0);
        s.read(2, "x\r\na\r\n");
        Subject.due("that has gone", s.x.same(true), 1);
        s.x.clear();
        s.variable("x");
        s.row(s.term(2, 0, "a"));
        Subject.due("or been cleared", s.x.same(true), 1);
    }

    private static void sameRows() {
        Subject.sentence("and the same rows; if not ordered, in any order, each as often: 1, 0.");
        compared("x\r\na\r\n", "x\r\na\r\n", 1, 1);
        compared("x\r\na\r\n", "x\r\nb\r\n", 0, 0);
        compared("x\r\na\r\n", "x\r\n\r\n", 0, 0);
        compared("x\r\na\r\n", "x\r\n", 0, 0);
        compared("x\r\n", "x\r\na\r\n", 0, 0);
        compared("x\r\n\r\n", "x\r\n", 0, 0);
        compared("x\r\n", "x\r\n\r\n", 0, 0);
        compared("x\r\na\r\nb\r\n", "x\r\nb\r\na\r\n", 0, 1);
        compared("x\r\na\r\nb\r\nc\r\n", "x\r\nc\r\na\r\nb\r\n", 0, 1);
        compared("x\r\na\r\na\r\nb\r\n", "x\r\na\r\nb\r\nb\r\n", 0, 0);
        compared("x\r\na\r\nb\r\nb\r\n", "x\r\na\r\na\r\nb\r\n", 0, 0);
        compared("x\r\na\r\nb\r\na\r\n", "x\r\na\r\na\r\nb\r\n", 0, 1);
        compared("x\r\na\r\na\r\n", "x\r\na\r\n", 0, 0);
        compared("x\r\na\r\n", "x\r\na\r\na\r\n", 0, 0);
        compared("x,y\r\na,b\r\n", "x,y\r\nb,a\r\n", 0, 0);
        compared("x,y\r\na,\r\n", "x,y\r\n,a\r\n", 0, 0);
        compared("x\r\n_:a\r\n", "x\r\na\r\n", 0, 0);
        compared("x\r\n\"\"\r\n", "x\r\n\r\n", 0, 0);
        String many = Subject.times("a\r\n", 23);
        compared("x\r\n" + many + "b\r\n", "x\r\nb\r\n" + many, 0, 1);
        compared("x\r\n" + many + "b\r\n", "x\r\n" + many + "a\r\n", 0, 0);
        compared("\r\n" + Subject.times("\r\n", 24), "\r\n" + Subject.times("\r\n", 24), 1, 1);
        compared("\r\n" + Subject.times("\r\n", 24), "\r\n" + Subject.times("\r\n", 23), 0, 0);
    }

    private static void lacksNo() {
        Subject.sentence("lacks: NO: none is kept, or there are not so many.");
        Subject s = new Subject();
        s.variable("x");
        s.row(s.term(2, 0, "a"));
        for (int i : new int[] {0, 1, -1, MIN, MAX}) s.refused("lacks " + i + ", none kept", NO, () -> s.x.lacks(i));
        s.x.keep();
        for (int i : new int[] {0, 1, -1, MIN, MAX}) s.refused("lacks " + i + " of none", NO, () -> s.x.lacks(i));
        s.row(-1);
        s.row(-1);
        Subject.due("the first", s.x.lacks(0), 1);
        Subject.due("the last", s.x.lacks(1), 2);
        for (int i : new int[] {2, 3, -1, MIN, MAX}) s.refused("lacks " + i + " of two", NO, () -> s.x.lacks(i));
        s.x.clear();
        s.refused("lacks 0 of no rows", NO, () -> s.x.lacks(0));
    }

    private static void lacking(String kept, String table, int... rows) {
        Subject s = against(kept, table);
        String what = Subject.shown(kept) + " against " + Subject.shown(table);
        for (int i = 0; i < rows.length; i++) Subject.due("lacks(" + i + "): " + what, s.x.lacks(i), rows[i]);
        Subject.due("lacks(" + rows.length + "): " + what, s.x.lacks(rows.length), NO);
        for (int i = rows.length - 1; i >= 0; i--) Subject.due("lacks(" + i + ") again: " + what, s.x.lacks(i), rows[i]);
    }

    private static void lacksTakesAway() {
        Subject.sentence("The i-th row of the table, by numbers, that the kept one lacks: going from row 0 on, each takes the first like it there away");
        lacking("x\r\n", "x\r\n");
        lacking("x\r\n", "x\r\na\r\n", 0);
        lacking("x\r\na\r\n", "x\r\n");
        lacking("x\r\na\r\n", "x\r\na\r\n");
        lacking("x\r\na\r\n", "x\r\na\r\na\r\n", 1);
        lacking("x\r\na\r\na\r\n", "x\r\na\r\na\r\n");
        lacking("x\r\na\r\na\r\n", "x\r\na\r\na\r\na\r\na\r\n", 2, 3);
        lacking("x\r\nb\r\na\r\n", "x\r\na\r\nb\r\n");
        lacking("x\r\na\r\nb\r\n", "x\r\nc\r\nb\r\nb\r\na\r\nc\r\na\r\n", 0, 2, 4, 5);
        lacking("x\r\n\r\n", "x\r\n\"\"\r\n\r\n\r\n", 0, 2);
        String many = Subject.times("a\r\n", 24);
        lacking("x\r\n" + many, "x\r\n" + many);
        lacking("x\r\n" + Subject.times("a\r\n", 23), "x\r\n" + many, 23);
        lacking("x\r\na\r\n", "x\r\n" + Subject.times("a\r\n", 4), 1, 2, 3);
        lacking("\r\n\r\n", "\r\n\r\n\r\n", 1);
    }

    private static void lacksNames() {
        Subject.sentence("(with other names, or in another order, there is none like it)");
        lacking("x\r\na\r\n", "y\r\na\r\na\r\n", 0, 1);
        lacking("x,y\r\na,a\r\n", "y,x\r\na,a\r\n", 0);
        lacking("x,y\r\na,\r\n", "x\r\na\r\n", 0);
        lacking("x\r\na\r\n", "x,y\r\na,\r\n", 0);
        lacking("\r\n\r\n", "x\r\n\r\n", 0);
        lacking("x\r\n\r\n", "\r\n\r\n\r\n", 0, 1);
        lacking("x\r\na\r\n", "y\r\n");
        lacking("xx\r\na\r\n", "x\r\na\r\n", 0);
    }

    // promises 19 and 20

    private static void goes(String table, int gone, String left) {
        Subject s = new Subject();
        s.read(2, table);
        Subject.due("distinct of " + Subject.shown(table), s.x.distinct(), gone);
        Subject.due("what is left", s.written(2), left);
        Subject.due("distinct again", s.x.distinct(), 0);
        Subject.due("what is left", s.written(2), left);
    }

    private static void distinct() {
        Subject.sentence("Rows that are like one before go: how many.");
        goes("\r\n", 0, "\r\n");
        goes("\r\n\r\n", 0, "\r\n\r\n");
        goes("\r\n" + Subject.times("\r\n", 24), 23, "\r\n\r\n");
        goes("x\r\n", 0, "x\r\n");
        goes("x\r\na\r\n", 0, "x\r\na\r\n");
        goes("x\r\na\r\nb\r\n", 0, "x\r\na\r\nb\r\n");
        goes("x\r\na\r\na\r\n", 1, "x\r\na\r\n");
        goes("x\r\na\r\nb\r\na\r\n", 1, "x\r\na\r\nb\r\n");
        goes("x\r\nb\r\na\r\na\r\nb\r\nc\r\n", 2, "x\r\nb\r\na\r\nc\r\n");
        goes("x\r\n\r\n\"\"\r\n_:a\r\na\r\n\r\n", 1, "x\r\n\r\n\"\"\r\n_:a\r\na\r\n");
        goes("x,y\r\na,b\r\nb,a\r\na,\r\n,a\r\na,b\r\n", 1, "x,y\r\na,b\r\nb,a\r\na,\r\n,a\r\n");
        goes("x\r\n" + Subject.times("a\r\n", 24), 23, "x\r\na\r\n");
        goes("x\r\n" + Subject.times("a\r\nb\r\n", 12), 22, "x\r\na\r\nb\r\n");
        Subject s = table();
        s.tape("ab");
        s.refused("distinct of rows that all differ", 0, () -> s.x.distinct());
        s.row(0, 1);
        Subject.due("one goes", s.x.distinct(), 1);
        Subject.due("the kept one stays", s.x.same(true), 1);
        Subject.due("terms stay", s.x.count(2), 5);
        Subject.due("the tape stays", s.x.count(3), 2);
        Subject.due("the out stays", s.x.count(4), TABLE_OUT.length());
    }

    private static void counts() {
        Subject.sentence("How many variables (what = 0), rows (1), terms (2), bytes on the tape (3), in the out (4). BAD.");
        Subject s = table();
        s.tape("abcd");
        int[] want = {2, 3, 5, 4, TABLE_OUT.length()};
        for (int what = 0; what <= 4; what++) Subject.due("count(" + what + ")", s.x.count(what), want[what]);
        for (int what : new int[] {-1, 5, 6, MIN, MAX, 1 << 8}) s.refused("count(" + what + ")", BAD, () -> s.x.count(what));
        Subject most = new Filled(3, 3000).s;
        most.x.write(3);
        int have = most.x.count(2);
        for (int i = have; i < 60; i++) most.term(1, 0, "b" + i);
        most.x.pass();
        int[] full = {6, 24, 60, 3000, 3000};
        for (int what = 0; what <= 4; what++) Subject.due("count(" + what + ") of the most", most.x.count(what), full[what]);
    }
}
