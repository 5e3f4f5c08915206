/** The document's section "Terms" up to its forms: for each sentence that names a limit, what lies on both sides of it. */
final class EdgeTermsTest {
    private static final int BAD = ResultForms.BAD;
    private static final int FULL = ResultForms.FULL;
    private static final int[] LEAST = {1, 1, 0, 0, 0};
    private static final int[] MOST = {20, 8, 20, 20, 20};

    public static void main(String[] args) {
        tapeOfMost();
        outOfMost();
        textLengths();
        textBytes();
        nodes();
        blanks();
        plain();
        tags();
        types();
        termsOfMost();
        likeTerms();
        variablesOfMost();
        nameLengths();
        nameLetters();
        namesAlike();
        rowsOfMost();
        cells();
        Subject.end();
    }

    private static void tapeOfMost() {
        Subject.sentence("THE TAPE and THE OUT have at most 3000 bytes each.");
        Subject s = new Subject();
        for (int i = 1; i <= 375; i++) Subject.due("eight bytes more", s.x.type(0, 8), 8 * i);
        s.refused("byte 3001", FULL, () -> s.x.type(0, 1));
        Subject.due("the tape", s.x.count(3), 3000);
    }

    private static void outOfMost() {
        Subject.sentence("THE TAPE and THE OUT have at most 3000 bytes each.");
        for (int form = 0; form <= 3; form++) {
            Subject most = new Filled(form, 3000).s;
            Subject.due("form " + form + " of 3000", most.x.write(form), 3000);
            Subject.due("the out", most.x.count(4), 3000);
            Subject more = new Filled(form, 3001).s;
            Subject.due("form " + form + " of 3001", more.x.write(form), FULL);
            Subject.due("the out", more.x.count(4), 0);
        }
    }

    private static void textLengths() {
        Subject.sentence("A TEXT is at most 20 bytes");
        for (int kind = 0; kind <= 4; kind++) {
            for (int n : new int[] {0, 1, 2, 7, 8, 9, 19, 20, 21, 22, 40, 3000}) {
                Subject s = new Subject();
                boolean fits = n >= LEAST[kind] && n <= MOST[kind];
                Subject.due("kind " + kind + " of " + n + " bytes", s.term(kind, 0, Subject.times("a", n)), fits ? 0 : BAD);
                Subject.due("its length", s.x.of(0, 2), fits ? n : BAD);
            }
        }
    }

    /** Whether a kind takes a byte, wherever it stands in a text. */
    private static void takes(int kind, int b, boolean fits) {
        for (String text : new String[] {(char) b + "", (char) b + "a1", "a" + (char) b + "1", "a1" + (char) b}) {
            Subject s = new Subject();
            Subject.due("kind " + kind + " of " + text.length() + " with byte " + b, s.term(kind, 0, text), fits ? 0 : BAD);
            Subject.due("terms", s.x.count(2), fits ? 1 : 0);
        }
    }

    private static void textBytes() {
        Subject.sentence("A TEXT is at most 20 bytes of 9, 10, 13, 32 .. 126.");
        for (int b = 0; b < 256; b++) {
            boolean isText = b == 9 || b == 10 || b == 13 || b >= 32 && b <= 126;
            for (int kind = 2; kind <= 4; kind++) takes(kind, b, isText);
        }
    }

    private static void nodes() {
        Subject.sentence("0 NODE: a text of 1 byte or more, of 33 .. 126 but \" < > \\ ^ ` { | }.");
        for (int b = 0; b < 256; b++) takes(0, b, b >= 33 && b <= 126 && "\"<>\\^`{|}".indexOf(b) < 0);
        Subject s = new Subject();
        s.refusedTaking("a node of nothing", BAD, "", () -> s.x.term(0, 0));
        Subject.due("a node of 1", s.term(0, 0, "!"), 0);
        Subject.due("a node of 20", s.term(0, 0, Subject.times("~", 20)), 1);
        s.refusedTaking("a node of 21", BAD, Subject.times("~", 21), () -> s.x.term(0, 0));
    }

    private static void blanks() {
        Subject.sentence("1 BLANK: 1 .. 8 letters a .. z and digits.");
        for (int b = 0; b < 256; b++) takes(1, b, b >= 'a' && b <= 'z' || b >= '0' && b <= '9');
        Subject s = new Subject();
        s.refusedTaking("a blank of nothing", BAD, "", () -> s.x.term(1, 0));
        Subject.due("a blank of 1", s.term(1, 0, "0"), 0);
        Subject.due("a blank of 8", s.term(1, 0, "az09az09"), 1);
        s.refusedTaking("a blank of 9", BAD, "az09az09a", () -> s.x.term(1, 0));
    }

    private static void plain() {
        Subject.sentence("2 PLAIN: any text.");
        Subject s = new Subject();
        Subject.due("plain of nothing", s.term(2, 0, ""), 0);
        Subject.due("plain of 20", s.term(2, 0, Subject.times("\r\n", 10)), 1);
        Subject.due("tagged of nothing", s.term(3, 0, ""), 2);
        Subject.due("typed of nothing", s.term(4, 0, ""), 3);
    }

    private static void tags() {
        Subject.sentence("a TAG, two letters a .. z (told as 26 times the first one's number, 0 for a, and the second one's)");
        for (int tag = 0; tag < 676; tag++) {
            Subject s = new Subject();
            s.variable("x");
            Subject.due("tag " + tag, s.term(3, tag, "t"), 0);
            Subject.due("it is told", s.x.of(0, 1), tag);
            s.row(0);
            String letters = "" + (char) ('a' + tag / 26) + (char) ('a' + tag % 26);
            Subject.due("it is written", s.written(3), "?x\n\"t\"@" + letters + "\n");
            s.x.pass();
            Subject.due("it is read", s.x.read(3), 1);
            Subject.due("as the same term", s.x.count(2), 1);
        }
        Subject s = new Subject();
        s.refusedTaking("tag -1", BAD, "t", () -> s.x.term(3, -1));
        s.refusedTaking("tag 676", BAD, "t", () -> s.x.term(3, 676));
    }

    private static void types() {
        Subject.sentence("a TYPE 0 .. 3, named whole, real, truth, date");
        String[] names = {"whole", "real", "truth", "date"};
        Subject s = new Subject();
        s.variable("x");
        s.row(-1);
        for (int type = 0; type < 4; type++) {
            Subject.due("type " + type, s.term(4, type, "t"), type);
            Subject.due("it is told", s.x.of(type, 1), type);
            s.x.put(0, 0, type);
            Subject.due("it is written", s.written(3), "?x\n\"t\"^^" + names[type] + "\n");
            s.x.pass();
            Subject.due("it is read", s.x.read(3), 1);
            Subject.due("as the same term", s.x.value(0, 0), type);
        }
        s.x.keep();
        s.refusedTaking("type -1", BAD, "t", () -> s.x.term(4, -1));
        s.refusedTaking("type 4", BAD, "t", () -> s.x.term(4, 4));
    }

    private static void termsOfMost() {
        Subject.sentence("TERMS are numbered from 0, at most 60");
        Subject s = new Subject();
        for (int i = 0; i < 60; i++) Subject.due("term " + i, s.term(i % 5, 0, "t" + i), i);
        s.refusedTaking("term 60", FULL, "x", () -> s.x.term(2, 0));
        Subject.due("terms", s.x.count(2), 60);
        Subject.due("the last one", s.told(59), "4/0/t59");
        Subject.due("none behind it", s.x.of(60, 0), BAD);
    }

    private static void likeTerms() {
        Subject.sentence("like ones are one");
        Subject s = new Subject();
        int[][] apart = {{0, 0}, {1, 0}, {2, 0}, {3, 0}, {3, 1}, {3, 26}, {4, 0}, {4, 1}};
        for (int i = 0; i < apart.length; i++) {
            Subject.due("another kind, tag or type", s.term(apart[i][0], apart[i][1], "ab"), i);
        }
        int n = apart.length;
        for (String text : new String[] {"", "a", "b", "ba", "aba", "abb", "AB"}) {
            Subject.due("another text " + text, s.term(2, 0, text), n++);
        }
        for (int i = 0; i < apart.length; i++) {
            Subject.due("a like one", s.term(apart[i][0], apart[i][1], "ab"), i);
        }
        Subject.due("terms", s.x.count(2), n);
        for (; n < 60; n++) s.term(2, 0, "t" + n);
        Subject.due("a like one when there are 60", s.term(3, 26, "ab"), 5);
        Subject.due("the last one when there are 60", s.term(2, 0, "t59"), 59);
        Subject.due("terms", s.x.count(2), 60);
    }

    private static void variablesOfMost() {
        Subject.sentence("VARIABLES 0, 1, .., at most 6");
        Subject s = new Subject();
        for (int v = 0; v < 6; v++) Subject.due("variable " + v, s.variable(String.valueOf((char) ('a' + v))), v);
        s.x.keep();
        s.refusedTaking("variable 6", FULL, "g", () -> s.x.variable());
        Subject.due("variables", s.x.count(0), 6);
    }

    private static void nameLengths() {
        Subject.sentence("a NAME, 1 .. 8 letters a .. z");
        Subject s = new Subject();
        s.x.keep();
        s.refusedTaking("a name of nothing", BAD, "", () -> s.x.variable());
        s.refusedTaking("a name of 9", BAD, "abcdefghi", () -> s.x.variable());
        s.refusedTaking("a name of 3000", BAD, Subject.times("a", 3000), () -> s.x.variable());
        Subject.due("a name of 1", s.variable("a"), 0);
        Subject.due("a name of 8", s.variable("abcdefgh"), 1);
        Subject.due("a name of 7", s.variable("abcdefg"), 2);
        Subject.due("names", s.written(2), "a,abcdefgh,abcdefg\r\n");
    }

    private static void nameLetters() {
        Subject.sentence("a NAME, 1 .. 8 letters a .. z");
        for (int b = 0; b < 256; b++) {
            boolean fits = b >= 'a' && b <= 'z';
            for (String name : new String[] {(char) b + "", (char) b + "xy", "x" + (char) b + "y", "xy" + (char) b}) {
                Subject s = new Subject();
                Subject.due("a name of " + name.length() + " with byte " + b, s.variable(name), fits ? 0 : BAD);
                Subject.due("variables", s.x.count(0), fits ? 1 : 0);
            }
        }
    }

    private static void namesAlike() {
        Subject.sentence("no two alike");
        Subject s = new Subject();
        String[] names = {"ab", "a", "abc", "b", "ba", "abcdefgh"};
        for (int v = 0; v < 6; v++) {
            Subject.due("name " + names[v], s.variable(names[v]), v);
            s.x.keep();
            for (int w = 0; w <= v; w++) s.refusedTaking("name " + names[w] + " again", BAD, names[w], () -> s.x.variable());
        }
    }

    private static void rowsOfMost() {
        Subject.sentence("ROWS 0, 1, .., at most 24");
        Subject s = new Subject();
        for (int r = 0; r < 24; r++) Subject.due("row " + r, s.x.row(), r);
        s.x.keep();
        s.refused("row 24", FULL, () -> s.x.row());
        Subject.due("rows", s.x.count(1), 24);
    }

    /** The first and last cell, and the ones beside them, each alone in a table of the most rows and variables. */
    private static void cells() {
        Subject.sentence("each gives each variable a term, or none (-1)");
        int[][] places = {{0, 0}, {0, 5}, {1, 0}, {22, 5}, {23, 0}, {23, 5}};
        for (int[] p : places) {
            Subject s = new Subject();
            for (char c = 'a'; c <= 'f'; c++) s.variable(String.valueOf(c));
            for (int r = 0; r < 24; r++) s.x.row();
            int t = s.term(2, 0, "t");
            Subject.due("put", s.x.put(p[0], p[1], t), 1);
            for (int r = 0; r < 24; r++) {
                for (int v = 0; v < 6; v++) {
                    Subject.due("cell " + r + " " + v, s.x.value(r, v), r == p[0] && v == p[1] ? t : -1);
                }
            }
        }
    }
}
