/**
 * The document's READING and FAULTS: for each sentence, what lies on both sides of its limit.
 * In a tape here the first ~ stands before the byte at which the fault is due.
 */
final class EdgeReadingTest {
    private static final String VARS0 = "{\"head\":{\"vars\":[";
    private static final String ROWS0 = "]},\"results\":{\"bindings\":[";
    private static final String END0 = "]}}";
    private static final String VARS1 = "<sparql><head>";
    private static final String ROWS1 = "</head><results>";
    private static final String END1 = "</results></sparql>";

    /** Each form's tape up to the value of its first variable, named x, in its first row. */
    private static final String[] BEFORE = {
        VARS0 + "\"x\"" + ROWS0 + "{\"x\":{\"type\":\"",
        VARS1 + "<variable name=\"x\"/>" + ROWS1 + "<result><binding name=\"x\">",
        "x\r\n",
        "?x\n"};
    private static final String[] BEHIND = {"}}" + END0, "</binding></result>" + END1, "\r\n", "\n"};
    private static final char[] BLANKS = {9, 10, 13, 32};
    private static final String A20 = Subject.times("a", 20);

    public static void main(String[] args) {
        blanksOfForm0();
        noBlanksElsewhere();
        slashes();
        quotEntity();
        quotedOfForm2();
        bareOfForm2();
        beginningsOfForm2();
        firstOfTwo();
        otherBytes();
        endsOfTapes();
        partsLeftOut();
        otherBytesThatStandElsewhere();
        fullTapes();
        wordLengths();
        namesThatAreThere();
        seventhNames();
        namesOfRows();
        tags();
        types();
        everyTextByte();
        escapesThatAreNone();
        twentyFirst();
        noneOfItsKind();
        seenWhenRead();
        blankTexts();
        rowsTooMany();
        wordsForKinds();
        severalWays();
        Subject.end();
    }

    private static void faults(int form, String... tapes) {
        for (String marked : tapes) {
            Subject s = new Subject();
            s.variable("old");
            s.row(s.term(2, 0, "t"));
            s.x.keep();
            int place = marked.indexOf('~');
            s.refusedTaking("read(" + form + ") of " + Subject.shown(marked), -10 - place, marked.replaceFirst("~", ""), () -> s.x.read(form));
        }
    }

    private static void truthFaults(int form, String... tapes) {
        for (String marked : tapes) {
            Subject s = new Subject();
            int place = marked.indexOf('~');
            s.refusedTaking("hear(" + form + ") of " + Subject.shown(marked), -10 - place, marked.replaceFirst("~", ""), () -> s.x.hear(form));
        }
    }

    private static void reads(int form, String tape, String told) {
        Subject s = new Subject();
        int rows = s.read(form, tape);
        Subject.due("read(" + form + ") of " + Subject.shown(tape), rows >= 0 ? s.toldTable() : "fault " + rows, told);
        Subject.due("rows", rows, s.x.count(1));
        Subject.due("the tape", s.x.count(3), 0);
    }

    /** One value, in a table of one variable and one row. */
    private static void value(int form, String value, String told) {
        reads(form, BEFORE[form] + value + BEHIND[form], "1 variables | " + told);
    }

    private static void valueFaults(int form, String... values) {
        for (String value : values) faults(form, BEFORE[form] + value + BEHIND[form]);
    }

    private static String json(String kind, String text) {
        return kind + "\",\"value\":\"" + text + "\"";
    }

    private static String xml(String tag, String text) {
        return "<" + tag + ">" + text + "</" + tag + ">";
    }

    // READING

    private static final String JSON = VARS0 + "\"x\",\"yy\"" + ROWS0 + "{},{\"x\":{\"type\":\"uri\",\"value\":\"u\"},"
        + "\"yy\":{\"type\":\"literal\",\"value\":\"v\",\"xml:lang\":\"en\"}},{\"x\":{\"type\":\"literal\",\"value\":\"w\","
        + "\"datatype\":\"date\"}}" + END0;
    private static final String JSON_TOLD = "2 variables | none none | 0/0/u 3/117/v | 4/3/w none";

    /** Whether a place of a tape of form 0 lies between two quotes that belong together. */
    private static boolean isInside(String tape, int place) {
        boolean inside = false;
        for (int i = 0; i < place; i++) inside ^= tape.charAt(i) == '"';
        return inside;
    }

    /** Blanks put in at each place that is not between quotes are taken there; no other byte is. */
    private static void blanksOfForm0() {
        Subject.sentence("in form 0 blanks (9, 10, 13, 32) before each { } [ ] : , and each \" that begins something, and behind all");
        putBlanksInto(JSON, JSON_TOLD);
        putBlanksInto(VARS0 + ROWS0 + END0, "0 variables");
        putBlanksInto(VARS0 + ROWS0 + "{}" + END0, "0 variables |");
        truthsWithBlanks();
    }

    private static void putBlanksInto(String tape, String told) {
        for (int i = 0; i <= tape.length(); i++) {
            if (isInside(tape, i)) continue;
            for (char blank : BLANKS) {
                reads(0, tape.substring(0, i) + blank + tape.substring(i), told);
                reads(0, tape.substring(0, i) + blank + blank + tape.substring(i), told);
            }
            for (char other : new char[] {0, 8, 11, 12, 14, 31, 33, 127, 160}) {
                faults(0, tape.substring(0, i) + "~" + other + tape.substring(i));
            }
        }
    }

    private static void truthsWithBlanks() {
        Subject.sentence("in form 0 blanks before a truth, and behind all");
        String truth = "{\"head\":{},\"boolean\":true}";
        for (int i = 0; i <= truth.length(); i++) {
            boolean isCut = i > truth.indexOf("true") && i < truth.indexOf("true}") + 4;
            for (char blank : BLANKS) {
                String tape = truth.substring(0, i) + "~" + blank + truth.substring(i);
                if (isInside(truth, i) || isCut) {
                    truthFaults(0, tape);
                } else {
                    Subject.due("hear of " + Subject.shown(tape), new Subject().hear(0, tape.replaceFirst("~", "")), 1);
                }
            }
        }
    }

    private static void noBlanksElsewhere() {
        Subject.sentence("nothing stands here but what is told (no blanks but those within tags of form 1)");
        String xml = VARS1 + "<variable name=\"x\"/>" + ROWS1 + "<result></result>" + END1;
        String xmlTruth = "<sparql><head></head><boolean>true</boolean></sparql>";
        for (char blank : BLANKS) {
            for (int i = 0; i <= xml.length(); i++) {
                boolean isThere = i < xml.length() && xml.charAt(i) == blank;
                faults(1, xml.substring(0, i) + (isThere ? blank + "~" : "~" + blank) + xml.substring(i));
            }
            for (int i = 0; i <= xmlTruth.length(); i++) truthFaults(1, xmlTruth.substring(0, i) + "~" + blank + xmlTruth.substring(i));
        }
        faults(0, VARS0 + "\"~ x\"" + ROWS0 + END0, VARS0 + "\"x~ \"" + ROWS0 + END0, "{\"~ head\":", "{\"head~ \":");
        faults(2, "~ x\r\n", "x~ \r\n", "x~ ,y\r\n", "x,~ y\r\n", "x~\n", "x\r~\r\n", "~\n");
        faults(3, "~ ?x\n", "?~ x\n", "?x~ \n", "?x\t~ ?y\n", "?x\t~\t?y\n", "?x~\r\n", "?x\n~ \n", "?x\n<a>~ \n", "?x\n\"a\"~ @en\n",
            "?x\n\"a\"@~ en\n", "?x\n\"a\"^^~ date\n", "?x\n_:~ a\n", "?x\n_~ :a\n", "?x\n~\r\n");
    }

    private static void slashes() {
        Subject.sentence("in form 0 .. \\/ for / in texts");
        value(0, json("uri", "a\\/b/"), "0/0/a/b/");
        value(0, json("literal", "\\/\\/"), "2/0///");
        value(0, json("literal", Subject.times("\\/", 20)), "2/0/" + Subject.times("/", 20));
        valueFaults(0, json("bnode", "~a\\/"), json("literal", Subject.times("\\/", 20) + "~\\/"));
        valueFaults(3, "\"a~\\/\"", "<~a\\/>");
        faults(0, VARS0 + "\"~\\/\"", "{\"head\":{\"vars\":[\"x~\\/");
    }

    private static void quotEntity() {
        Subject.sentence("In form 1 &quot; for \" in texts.");
        value(1, xml("literal", "&quot;\"&quot;"), "2/0/\"\"\"");
        value(1, xml("literal", Subject.times("&quot;", 20)), "2/0/" + Subject.times("\"", 20));
        valueFaults(1, xml("uri", "~&quot;"), xml("bnode", "~&quot;"), xml("literal", A20 + "~&quot;"));
        faults(1, VARS1 + "<variable name=~&quot;x", VARS1 + "<variable name=\"~&quot;\"/>");
        value(0, json("literal", "&quot;"), "2/0/&quot;");
        value(2, "&quot;", "2/0/&quot;");
        value(3, "\"&quot;\"", "2/0/&quot;");
    }

    private static void quotedOfForm2() {
        Subject.sentence("In form 2 a quoted value is of kind 2, whatever it is");
        for (String text : new String[] {"", "a", "_:", "_:a", ",", "\r\n", "\t", "\"", "\"\"", "a\"b", "<a>", A20, Subject.times("\"", 20)}) {
            value(2, "\"" + text.replace("\"", "\"\"") + "\"", "2/0/" + text);
        }
        valueFaults(2, "\"a\"~a", "\"a\"~ ", "\"a\"~,", "\"~\u0001\"", "\"~\u007f\"", "\"" + A20 + "~a\"", "\"" + A20 + "~\"\"\"");
    }

    private static void bareOfForm2() {
        Subject.sentence("nothing is none, any other (bytes 9, 32 .. 126 but \" and ,) is of kind 2");
        value(2, "", "none");
        for (int b = 0; b < 256; b++) {
            boolean isBare = b == 9 || b >= 32 && b <= 126 && b != '"' && b != ',';
            if (isBare) {
                value(2, "" + (char) b, "2/0/" + (char) b);
                value(2, "a" + (char) b + "a", "2/0/a" + (char) b + "a");
            } else if (b == 13) {
                valueFaults(2, "a\r~a", "\r~a", "a\r~");
            } else if (b == '"') {
                valueFaults(2, "a~\"a", "a~\"");
            } else {
                valueFaults(2, "a~" + (char) b + "a", "a~" + (char) b, "~" + (char) b + "a");
            }
        }
        value(2, A20, "2/0/" + A20);
        valueFaults(2, A20 + "~a");
    }

    private static void beginningsOfForm2() {
        Subject.sentence("one that is not and begins with _: is of kind 1");
        value(2, "_:a", "1/0/a");
        value(2, "_:0", "1/0/0");
        value(2, "_:abcdef09", "1/0/abcdef09");
        for (String text : new String[] {"_", "_a", "__:a", " _:a", ":_", "a_:a"}) value(2, text, "2/0/" + text);
        valueFaults(2, "_:~", "_:~_:a", "_:~A", "_:~abcdefghi", "_:a~_", "_:a~:", "_:a~\"");
    }

    // FAULTS

    private static void firstOfTwo() {
        Subject.sentence("FAULTS, the first one from the tape's beginning on");
        faults(0, "{\"he~xd\":{\"vars\":[1", VARS0 + "\"~X\"" + ROWS0 + "{},]",
            BEFORE[0] + json("uri", "~a b") + ",}", BEFORE[0] + json("literal", "a~\\q\\q") + BEHIND[0]);
        faults(1, VARS1 + "<~x><y>", BEFORE[1] + xml("uri", "~a b") + "<x>", BEFORE[1] + xml("literal", "a~>&") + BEHIND[1]);
        faults(2, "x,~x\r\n\"", "x\r\na~\"\r\n\"", "x,~\r\n,,\r\n");
        faults(3, "?x\t?~x\n<>", "?x\n<~>\n<>", "?x\n~a\n_:\n");
    }

    /** Here the bytes 1 and 2 stand round each word and escape: what spoils one is told at its first byte. */
    private static final String[] MARKED = {
        VARS0 + "\"x\",\"yy\"" + ROWS0 + "{\"x\":{\"type\":\"\u0001uri\u0002\",\"value\":\"u\u0001\\/\u0002\"},\"\u0001yy\u0002\":{\"type\":\""
            + "\u0001literal\u0002\",\"value\":\"a\u0001\\n\u0002\u0001\\\"\u0002\",\"xml:lang\":\"\u0001en\u0002\"}},{\"x\":{\"type\":\"\u0001bnode\u0002\","
            + "\"value\":\"b\"},\"\u0001yy\u0002\":{\"type\":\"\u0001literal\u0002\",\"value\":\"\",\"datatype\":\"\u0001truth\u0002\"}}" + END0,
        VARS1 + "<variable name=\"x\"/><variable name=\"yy\"/>" + ROWS1 + "<result><binding name=\"x\"><uri>u\u0001&amp;\u0002</uri></binding>"
            + "<binding name=\"\u0001yy\u0002\"><literal xml:lang=\"\u0001en\u0002\">\u0001&lt;\u0002\u0001&#13;\u0002</literal></binding></result>"
            + "<result><binding name=\"x\"><bnode>b</bnode></binding><binding name=\"\u0001yy\u0002\"><literal datatype=\"\u0001truth\u0002\">"
            + "\u0001&quot;\u0002</literal></binding></result>" + END1,
        "x,yy\r\na,_:b\r\n\"c\",\r\n",
        "?x\t?yy\n<a>\t_:b\n\"a\u0001\\n\u0002\u0001\\\\\u0002\"@\u0001en\u0002\t\"\"^^\u0001whole\u0002\n"};

    private static String unmarked(String s) {
        return s.replace("\u0001", "").replace("\u0002", "");
    }

    /** Where a fault is told that is met so far on: there, or where the word or escape begins that it is in. */
    private static int toldAt(String marked, int place) {
        int at = 0;
        int begun = -1;
        for (char c : marked.toCharArray()) {
            if (c == 1) begun = at;
            if (c == 2) begun = -1;
            if (c == 1 || c == 2) continue;
            if (at == place) break;
            at++;
        }
        return begun >= 0 ? begun : at;
    }

    private static void otherBytes() {
        Subject.sentence("something else than must come, at its first byte that is another one");
        for (int form = 0; form <= 3; form++) {
            String whole = unmarked(MARKED[form]);
            for (int i = 0; i < whole.length(); i++) {
                for (char other : new char[] {0, 1, 127, 128, 255}) {
                    Subject s = new Subject();
                    Subject.due("form " + form + ", byte " + i + " of " + Subject.shown(whole) + " is " + (int) other,
                        s.read(form, whole.substring(0, i) + other + whole.substring(i + 1)), -10 - toldAt(MARKED[form], i));
                    Subject.due("terms", s.x.count(2), 0);
                }
            }
        }
    }

    /** The tapes that are cut follow longer ones on the same object, of which no byte is on the tape any more. */
    private static void endsOfTapes() {
        Subject.sentence("something else than must come, at its first byte that is another one (the tape's length when it ends)");
        int[][] goodEnds = {{}, {}, {6, 13}, {7, 15}};
        for (int form = 0; form <= 3; form++) {
            String whole = unmarked(MARKED[form]);
            Subject s = new Subject();
            Subject.due("form " + form, s.read(form, whole), 2);
            for (int n = whole.length() - 1; n >= 0; n--) {
                int want = -10 - toldAt(MARKED[form], n);
                for (int rows = 0; rows < goodEnds[form].length; rows++) {
                    if (n == goodEnds[form][rows]) want = rows;
                }
                if (n % 4 == 0) s = new Subject();
                if (n % 4 == 0) s.read(form, whole);
                Subject.due("form " + form + " cut at " + n, s.read(form, whole.substring(0, n)), want);
            }
        }
        for (int form = 0; form <= 1; form++) {
            Subject s = new Subject();
            s.x.say(form, true);
            String whole = s.out();
            for (int n = 0; n < whole.length(); n++) truthFaults(form, whole.substring(0, n) + "~");
        }
    }

    /**
     * A tape that is taken is just what would be written: no byte of forms 0, 1 and 3 may come in two ways
     * but for blanks, which are not tried here, and these two escapes.
     */
    private static void takenOnlyAsWritten(int form, String tape) {
        Subject s = new Subject();
        int answer = s.read(form, tape);
        String told = form == 0 ? tape.replace("\\/", "/") : form == 1 ? tape.replace("&quot;", "\"") : tape;
        if (answer >= 0) Subject.due("what is taken", told, s.written(form));
        else Subject.due("the place of a fault is on the tape or its end", -10 - answer <= tape.length() ? 1 : 0, 1);
    }

    private static void partsLeftOut() {
        Subject.sentence("nothing stands here but what is told; something else than must come, at its first byte that is another one");
        for (int form : new int[] {0, 1, 3}) {
            String whole = unmarked(MARKED[form]);
            for (int from = 0; from < whole.length(); from++) {
                for (int to = from + 1; to <= whole.length() && to < from + 60; to++) {
                    takenOnlyAsWritten(form, whole.substring(0, from) + whole.substring(to));
                }
            }
        }
    }

    private static void otherBytesThatStandElsewhere() {
        Subject.sentence("nothing stands here but what is told; something else than must come, at its first byte that is another one");
        for (int form : new int[] {0, 1, 3}) {
            String whole = unmarked(MARKED[form]);
            for (int i = 0; i < whole.length(); i++) {
                for (char other : "{}[]:,\"<>/&\\?@^_;=abxy".toCharArray()) {
                    takenOnlyAsWritten(form, whole.substring(0, i) + other + whole.substring(i + 1));
                    takenOnlyAsWritten(form, whole.substring(0, i) + other + whole.substring(i));
                }
            }
        }
    }

    /** A tape of 3000 bytes, and a fault at its last byte and behind it. */
    private static void fullTapes() {
        Subject.sentence("-10 less the place of the first fault; the tape's length when it ends");
        String whole = VARS0 + ROWS0 + END0;
        String blanks = Subject.times(" ", 3000 - whole.length());
        reads(0, whole + blanks, "0 variables");
        reads(0, blanks + whole, "0 variables");
        faults(0, whole + blanks.substring(1) + "~x", blanks + whole.substring(0, whole.length() - 1) + "~x",
            " " + blanks + whole.substring(0, whole.length() - 1) + "~", Subject.times(" ", 3000) + "~");
        truthFaults(0, Subject.times("\n", 3000) + "~", Subject.times("\t", 2999) + "~x");
        faults(1, "~" + Subject.times("x", 3000));
        faults(2, Subject.times("\r\n", 25) + "~" + Subject.times("\r\n", 1475), "~" + Subject.times("x", 3000));
        faults(3, Subject.times("\n", 25) + "~" + Subject.times("\n", 2975), "?~" + Subject.times("x", 2999));
    }

    /** A head of these names, in each form. */
    private static String head(int form, String... names) {
        StringBuilder s = new StringBuilder();
        for (int i = 0; i < names.length; i++) {
            switch (form) {
                case 0: s.append(i > 0 ? "," : "").append("\"" + names[i] + "\""); break;
                case 1: s.append("<variable name=\"" + names[i] + "\"/>"); break;
                case 2: s.append(i > 0 ? "," : "").append(names[i]); break;
                default: s.append(i > 0 ? "\t?" : "?").append(names[i]);
            }
        }
        switch (form) {
            case 0: return VARS0 + s + ROWS0;
            case 1: return VARS1 + s + ROWS1;
            case 2: return s + "\r\n";
            default: return s + "\n";
        }
    }

    private static String end(int form) {
        return form == 0 ? END0 : form == 1 ? END1 : "";
    }

    private static void wordLengths() {
        Subject.sentence("A NAME is as many letters a .. z as there are: at its first byte when there are none, or it is no name");
        for (int form = 0; form <= 3; form++) {
            reads(form, head(form, "a") + end(form), "1 variables");
            reads(form, head(form, "abcdefgh") + end(form), "1 variables");
            reads(form, head(form, "a", "abcdefgh", "z") + end(form), "3 variables");
            faults(form, head(form, "~abcdefghi") + end(form), head(form, "a", "~abcdefghi") + end(form), head(form, "~" + Subject.times("z", 40)),
                head(form, "~X"), head(form, "a", "~X"), head(form, "~1"), head(form, "a", "~_"), head(form, "~`"), head(form, "~{"),
                head(form, "a~X"), head(form, "a~1"), head(form, "abcdefgh~X"), head(form, "~abcdefghiX"), head(form, "z~{"), head(form, "a~`"));
            faults(form, form == 3 ? "?~\n" : head(form, form == 2 ? "~,a" : "~"), head(form, "a", "~"));
        }
    }

    private static void namesThatAreThere() {
        Subject.sentence("or one that the head has already");
        for (int form = 0; form <= 3; form++) {
            faults(form, head(form, "x", "~x"), head(form, "x", "y", "~x"), head(form, "x", "y", "~y"), head(form, "abcdefgh", "a", "~abcdefgh"),
                head(form, "a", "b", "c", "d", "e", "~a"));
            reads(form, head(form, "x", "xx", "xxx", "yx", "y", "xy") + end(form), "6 variables");
        }
    }

    private static void seventhNames() {
        Subject.sentence("or a seventh one");
        for (int form = 0; form <= 3; form++) {
            reads(form, head(form, "a", "b", "c", "d", "e", "f") + end(form), "6 variables");
            faults(form, head(form, "a", "b", "c", "d", "e", "f", "~g"), head(form, "a", "b", "c", "d", "e", "f", "~a"),
                head(form, "a", "b", "c", "d", "e", "f", "~"), head(form, "a", "b", "c", "d", "e", "f", "~G"));
        }
    }

    /** A row of bindings of these names. */
    private static String row(int form, String... names) {
        StringBuilder s = new StringBuilder(form == 0 ? "{" : "<result>");
        for (int i = 0; i < names.length; i++) {
            if (form == 0) s.append(i > 0 ? "," : "").append("\"" + names[i] + "\":{\"type\":\"uri\",\"value\":\"u\"}");
            else s.append("<binding name=\"" + names[i] + "\"><uri>u</uri></binding>");
        }
        return s + (form == 0 ? "}" : "</result>");
    }

    private static void namesOfRows() {
        Subject.sentence("or in a row one that is not a variable's, or not behind the one before in their order");
        String[] vars = {"x", "yy", "z"};
        String u = "0/0/u";
        for (int form = 0; form <= 1; form++) {
            String head = head(form, vars);
            reads(form, head + row(form) + end(form), "3 variables | none none none");
            reads(form, head + row(form, "x") + end(form), "3 variables | " + u + " none none");
            reads(form, head + row(form, "z") + end(form), "3 variables | none none " + u);
            reads(form, head + row(form, "x", "z") + end(form), "3 variables | " + u + " none " + u);
            reads(form, head + row(form, "x", "yy", "z") + end(form), "3 variables | " + u + " " + u + " " + u);
            faults(form, head + row(form, "~"), head + row(form, "~y"), head + row(form, "~yyy"), head + row(form, "~xx"), head + row(form, "~X"),
                head + row(form, "x~X"), head + row(form, "x", "~w"), head + row(form, "x", "~x"), head + row(form, "yy", "~x"),
                head + row(form, "z", "~yy"), head + row(form, "z", "~z"), head + row(form, "x", "z", "~yy"), head + row(form, "x", "yy", "z", "~x"),
                head + row(form, "x", "yy", "z", "~w"), head + row(form, "x", "yy", "z", "~z"), head(form) + row(form, "~x"),
                head + row(form, "~" + Subject.times("x", 40)));
            String two = form == 0 ? "," : "";
            reads(form, head + row(form, "z") + two + row(form, "x") + end(form), "3 variables | none none " + u + " | " + u + " none none");
        }
        for (int form = 0; form <= 1; form++) {
            String six = head(form, "a", "b", "c", "d", "e", "f");
            faults(form, six + row(form, "a", "b", "c", "d", "e", "f", "~g"), six + row(form, "a", "b", "c", "d", "e", "f", "~f"));
        }
    }

    /** A literal of text t with this tag or type, in forms 0, 1, 3. */
    private static String literal(int form, boolean isTag, String word) {
        switch (form) {
            case 0: return json("literal", "t") + (isTag ? ",\"xml:lang\":\"" : ",\"datatype\":\"") + word + "\"";
            case 1: return "<literal " + (isTag ? "xml:lang=\"" : "datatype=\"") + word + "\">t</literal>";
            default: return "\"t\"" + (isTag ? "@" : "^^") + word;
        }
    }

    private static void tags() {
        Subject.sentence("A TAG is as many letters a .. z as there are: at its first byte when there are none, or it is no tag");
        for (int form : new int[] {0, 1, 3}) {
            value(form, literal(form, true, "aa"), "3/0/t");
            value(form, literal(form, true, "az"), "3/25/t");
            value(form, literal(form, true, "za"), "3/650/t");
            value(form, literal(form, true, "zz"), "3/675/t");
            for (String word : new String[] {"~", "~a", "~aaa", "~abcdefghijk", "~EN", "~1a", "~`a", "~{a", "~a1", "~aA", "aa~1", "aa~A", "aa~-us", "zz~{", "aa~`"}) {
                valueFaults(form, literal(form, true, word));
            }
        }
    }

    private static void types() {
        Subject.sentence("A TYPE is as many letters a .. z as there are: at its first byte when there are none, or it is no type");
        String[] names = {"whole", "real", "truth", "date"};
        for (int form : new int[] {0, 1, 3}) {
            for (int type = 0; type < 4; type++) {
                String name = names[type];
                value(form, literal(form, false, name), "4/" + type + "/t");
                String cut = name.substring(0, name.length() - 1);
                for (String word : new String[] {"~" + cut, "~" + name + "s", "~" + cut + "A", name + "~A", name + "~1", "~x" + name, "~x" + name.substring(1), "~" + name.toUpperCase(),
                    "~" + cut + "z"}) {
                    valueFaults(form, literal(form, false, word));
                }
            }
            valueFaults(form, literal(form, false, "~"), literal(form, false, "~0"), literal(form, false, "~int"));
        }
    }

    /** Each byte between two letters, in each place where a text stands. */
    private static void everyTextByte() {
        Subject.sentence("A TEXT: a byte that can't stand there, at it");
        for (int b = 0; b < 256; b++) {
            char c = (char) b;
            boolean isPrinted = b >= 32 && b <= 126;
            if (b != '"' && b != '\\') {
                one(0, isPrinted, json("literal", "x~" + c + "x"), "2/0/x" + c + "x");
                one(3, isPrinted, "\"x~" + c + "x\"", "2/0/x" + c + "x");
            }
            if (b != '<' && b != '&') one(1, isPrinted && b != '>' || b == 9 || b == 10, xml("literal", "x~" + c + "x"), "2/0/x" + c + "x");
            if (b != '"') one(2, isPrinted || b == 9 || b == 10 || b == 13, "\"x~" + c + "x\"", "2/0/x" + c + "x");
        }
        valueFaults(0, "literal\",\"value\":\"x\"~x\"");
        faults(0, BEFORE[0] + "literal\",\"value\":\"x\\\"~");
        valueFaults(1, "<literal>x<~x</literal>");
        valueFaults(2, "\"x\"~x\"");
        valueFaults(3, "\"x\"~x\"");
    }

    private static void one(int form, boolean fits, String marked, String told) {
        if (fits) value(form, marked.replaceFirst("~", ""), told);
        else valueFaults(form, marked);
    }

    private static void escapesThatAreNone() {
        Subject.sentence("of an escape at its first byte; a \\ or & that begins none, too");
        for (int b = 0; b < 256; b++) {
            char c = (char) b;
            int known = "\"\\tnr/".indexOf(c);
            String meant = known < 0 ? "" : "\"\\\t\n\r/".substring(known, known + 1);
            one(0, known >= 0, json("literal", "x~\\" + c + "x"), "2/0/x" + meant + "x");
            one(3, known >= 0 && known < 5, "\"x~\\" + c + "x\"", "2/0/x" + meant + "x");
        }
        String[] entities = {"&amp;", "&lt;", "&gt;", "&#13;", "&quot;"};
        String meant = "&<>\r\"";
        for (int i = 0; i < entities.length; i++) {
            String e = entities[i];
            value(1, xml("literal", "x" + e + e), "2/0/x" + meant.charAt(i) + meant.charAt(i));
            for (int n = 1; n < e.length(); n++) {
                valueFaults(1, xml("literal", "x~" + e.substring(0, n)), xml("literal", "x~" + e.substring(0, n) + "&amp;"));
                faults(1, BEFORE[1] + "<literal>x~" + e.substring(0, n));
            }
            valueFaults(1, xml("literal", "~" + e.toUpperCase().replace("#13", "#x")), xml("literal", e + "~&;"));
        }
        valueFaults(1, xml("literal", "~& "), xml("literal", "~&#10;"), xml("literal", "~&#013;"), xml("literal", "~&apos;"), xml("uri", "a~&b"),
            xml("bnode", "a~&b"));
        faults(0, BEFORE[0] + "literal\",\"value\":\"x~\\", BEFORE[0] + "uri\",\"value\":\"x~\\");
        faults(3, BEFORE[3] + "\"x~\\");
    }

    private static void twentyFirst() {
        Subject.sentence("A TEXT: a 21st one, at it (of an escape at its first byte)");
        String n20 = Subject.times("\\n", 20);
        String lt20 = Subject.times("&lt;", 20);
        value(0, json("literal", A20), "2/0/" + A20);
        value(0, json("uri", A20), "0/0/" + A20);
        value(0, json("literal", n20), "2/0/" + Subject.times("\n", 20));
        value(1, xml("literal", A20), "2/0/" + A20);
        value(1, xml("uri", A20), "0/0/" + A20);
        value(1, xml("literal", lt20), "2/0/" + Subject.times("<", 20));
        value(2, A20, "2/0/" + A20);
        value(2, "\"" + A20 + "\"", "2/0/" + A20);
        value(3, "\"" + A20 + "\"", "2/0/" + A20);
        value(3, "<" + A20 + ">", "0/0/" + A20);
        value(3, "\"" + n20 + "\"@en", "3/117/" + Subject.times("\n", 20));
        valueFaults(0, json("literal", A20 + "~a"), json("literal", A20 + "~\\n"), json("literal", n20 + "~a"), json("uri", A20 + "~a"),
            json("bnode", A20 + "~a"), json("uri", Subject.times(" ", 20) + "~ "), json("literal", A20 + "~\\q"));
        valueFaults(1, xml("literal", A20 + "~a"), xml("literal", A20 + "~&lt;"), xml("literal", lt20 + "~a"), xml("uri", A20 + "~a"),
            xml("bnode", A20 + "~a"), xml("uri", Subject.times(" ", 20) + "~ "), xml("literal", A20 + "~&q"));
        valueFaults(2, A20 + "~a", "\"" + A20 + "~a\"", "\"" + A20 + "~\"\"\"", "\"" + Subject.times("\"\"", 20) + "~a\"", A20 + "~\t");
        valueFaults(3, "\"" + A20 + "~a\"", "\"" + A20 + "~\\n\"", "\"" + n20 + "~a\"", "<" + A20 + "~a>", "<" + Subject.times(" ", 20) + "~ >");
    }

    private static void noneOfItsKind() {
        Subject.sentence("one that is none of its kind, at its first byte");
        for (int b = 32; b <= 126; b++) {
            char c = (char) b;
            boolean isNode = b >= 33 && "\"<>\\^`{|}".indexOf(c) < 0;
            boolean isBlank = c >= 'a' && c <= 'z' || c >= '0' && c <= '9';
            String in0 = c == '"' || c == '\\' ? "\\" + c : "" + c;
            String in1 = c == '&' ? "&amp;" : c == '<' ? "&lt;" : c == '>' ? "&gt;" : "" + c;
            one(0, isNode, json("uri", "~x" + in0), "0/0/x" + c);
            one(0, isBlank, json("bnode", "~x" + in0), "1/0/x" + c);
            one(1, isNode, xml("uri", "~x" + in1), "0/0/x" + c);
            one(1, isBlank, xml("bnode", "~x" + in1), "1/0/x" + c);
            if (c != '>') one(3, isNode, "<~x" + c + ">", "0/0/x" + c);
        }
        valueFaults(0, json("uri", "~"), json("bnode", "~"), json("bnode", "~abcdefghi"), json("uri", "~a\\t"), json("uri", "~\\n"), json("bnode", "~\\r"));
        valueFaults(1, xml("uri", "~"), xml("bnode", "~"), xml("bnode", "~abcdefghi"), xml("uri", "~a\t"), xml("uri", "~\n"), xml("bnode", "~&#13;"));
        valueFaults(3, "<~>", "<~ >", "<~a\\n>");
        value(0, json("bnode", "abcdefgh"), "1/0/abcdefgh");
        value(1, xml("bnode", "abcdefgh"), "1/0/abcdefgh");
        value(0, json("literal", ""), "2/0/");
        value(1, xml("literal", ""), "2/0/");
        value(3, "\"\"", "2/0/");
        value(0, json("uri", "a"), "0/0/a");
        value(1, xml("uri", "a"), "0/0/a");
        value(3, "<a>", "0/0/a");
    }

    private static void seenWhenRead() {
        Subject.sentence("that is seen when it has been read whole; in form 0 behind its \", in form 1 at the < behind it, in form 3 at the > or \"");
        faults(0, BEFORE[0] + "uri\",\"value\":\"a b~", BEFORE[0] + "uri\",\"value\":\"~a b\"", BEFORE[0] + "uri\",\"value\":\"~a b\"x",
            BEFORE[0] + "uri\",\"value\":\"~\"", BEFORE[0] + "uri\",\"value\":\"~", BEFORE[0] + "uri\",\"value\":\"a b~\u0001\"",
            BEFORE[0] + "bnode\",\"value\":\"A~", BEFORE[0] + "bnode\",\"value\":\"~A\",\"datatype\"", BEFORE[0] + "bnode\",\"value\":\"A~\\q\"");
        faults(1, BEFORE[1] + "<uri>a b~", BEFORE[1] + "<uri>~a b<", BEFORE[1] + "<uri>~a b<x", BEFORE[1] + "<uri>~<", BEFORE[1] + "<uri>~",
            BEFORE[1] + "<uri>a b~>", BEFORE[1] + "<bnode>A~", BEFORE[1] + "<bnode>~A<", BEFORE[1] + "<bnode>A~&", BEFORE[1] + "<bnode>~A</uri>");
        faults(3, BEFORE[3] + "<a b~", BEFORE[3] + "<~a b>", BEFORE[3] + "<~a b>x", BEFORE[3] + "<~>", BEFORE[3] + "<~", BEFORE[3] + "<a b~\u0001>");
    }

    private static void blankTexts() {
        Subject.sentence("The text of a blank in forms 2, 3 is as many letters and digits as there are, at its first byte likewise.");
        for (int form = 2; form <= 3; form++) {
            value(form, "_:a", "1/0/a");
            value(form, "_:9", "1/0/9");
            value(form, "_:abcdefgh", "1/0/abcdefgh");
            value(form, "_:01234567", "1/0/01234567");
            valueFaults(form, "_:~", "_:~abcdefghi", "_:~012345678", "_:~" + A20 + A20, "_:~abcdefghiX", "_:~A", "_:~-", "_:~:", "_:~/", "_:~`", "_:~{",
                "_:a~A", "_:abcdefgh~-", "_:a~:", "_:a~/", "_:a~`", "_:a~{");
            faults(form, BEFORE[form] + "_:~", BEFORE[form] + "_:a~", BEFORE[form] + "_:abcdefgh~", BEFORE[form] + "_:~abcdefghi");
        }
    }

    private static void rowsTooMany() {
        Subject.sentence("A row too many, at its first byte (the line's, or { or <).");
        String[] rows24 = {"{}" + Subject.times(",{}", 23), Subject.times("<result></result>", 24), Subject.times("\r\n", 24), Subject.times("\n", 24)};
        for (int form = 0; form <= 3; form++) {
            String full = head(form) + rows24[form];
            reads(form, full + end(form), "0 variables" + Subject.times(" |", 24));
            faults(form, full + (form == 0 ? ",~{}" : form == 1 ? "~<result></result>" : form == 2 ? "~\r\n" : "~\n") + end(form));
        }
        faults(0, head(0) + rows24[0] + " , \n~{}", head(0) + rows24[0] + ",~{\"x\"", head(0) + rows24[0] + ",~x", head(0) + rows24[0] + "~{");
        faults(1, head(1) + rows24[1] + "~<result>", head(1) + rows24[1] + "~<x", head(1) + rows24[1] + "</~x", head(1) + rows24[1] + "~x");
        faults(2, head(2, "x") + Subject.times("a\r\n", 24) + "~a\r\n", head(2, "x") + Subject.times("a\r\n", 24) + "~\"", head(2) + rows24[2] + "~\n");
        faults(3, head(3, "x") + Subject.times("_:a\n", 24) + "~_:a\n", head(3, "x") + Subject.times("\n", 24) + "~x", head(3) + rows24[3] + "~\t");
    }

    private static void wordsForKinds() {
        Subject.sentence("A T that is none, at its first byte.");
        for (String word : new String[] {"", "u", "ur", "urii", "urj", "bnod", "bnodes", "litera", "literals", "Uri", "URI", "ari", "anode", "aiteral", "typed", "x", "1", " uri"}) {
            faults(0, BEFORE[0] + "~" + word + "\",\"value\":\"a\"" + BEHIND[0]);
        }
        value(0, json("uri", "a"), "0/0/a");
        value(0, json("bnode", "a"), "1/0/a");
        value(0, json("literal", "a"), "2/0/a");
    }

    private static void severalWays() {
        Subject.sentence("Of what may come in several ways that byte is told which is none of these first bytes,"
            + " or else as if the one with that first byte must come (of < two bytes: </ or another)");
        String x = head(0, "x");
        String bound = BEFORE[0] + json("literal", "a");
        faults(0, VARS0 + "~{", VARS0 + "~,", VARS0 + "\"x\"~}", VARS0 + "\"x\"~\"", VARS0 + "\"x\",~]", x + "~}", x + "~,", x + "~\"", x + "{~]", x + "{~,",
            x + "{}~}", x + "{}~{", x + "{},~]", x + "{},~,", bound + "~]", bound + "~\"", bound + ",~}", bound + ",\"~l", bound + ",\"~\"", bound + ",\"x~l",
            bound + ",\"d~t", bound + ",\"~}}]}}", bound + ",\"x~}}]}}", BEFORE[0] + "uri\"~}}]}}", BEFORE[0] + "literal\",~}}]}}", bound + "}~]", bound + "}~\"", bound + "},~}", BEFORE[0] + json("uri", "a") + "~,\"datatype\":\"date\"");
        String open = VARS1 + "<variable name=\"x\"/>";
        String row = open + ROWS1 + "<result>";
        faults(1, VARS1 + "~v", VARS1 + "<~x", VARS1 + "<~", VARS1 + "</~v", VARS1 + "<v~/", open + "<~h", open + "</~v", open + ROWS1 + "~r",
            open + ROWS1 + "<~b", open + ROWS1 + "</~s", open + ROWS1 + "<~", row + "<~r", row + "</~b", row + "~x", row + "</result><~x",
            row + "</result></~x", BEFORE[1] + "<~/", BEFORE[1] + "<~x", BEFORE[1] + "<u~x", BEFORE[1] + "<b~i", BEFORE[1] + "<l~x", BEFORE[1] + "~u",
            row + "<bind~</results></sparql>", BEFORE[1] + "<uri>a</~</results></sparql>", BEFORE[1] + "<uri>a</uri></~</results></sparql>",
            BEFORE[1] + "<literal~=", BEFORE[1] + "<literal ~l", BEFORE[1] + "<literal x~l", BEFORE[1] + "<literal d~i",
            BEFORE[1] + "<uri>a</uri></binding><~r", BEFORE[1] + "<uri>a</uri></binding></~b", BEFORE[1] + "<uri>a</uri></binding>~r");
        faults(2, "~\n", "~,", "\r~x", "x~\n", "x\r~,", "x\r\n~\n", "x\r\na~\n", "x\r\na\r~a", "x\r\n_:a~B\r\n", "x,y\r\na~\r\n", "x,y\r\n~\r\n",
            "x,y\r\n\"a\"~\r\n", "x,y\r\na,b~,\r\n");
        faults(3, "~x", "~\t", "?x~?", "?x\t~x", "?x\n~x", "?x\n~\t", "?x\n~?x", "?x\n_~x", "?x\n\"a\"~x", "?x\n\"a\"^~x", "?x\n\"a\"^~@", "?x\n\"a\"@~@", "?x\t?y\n<a>~\n",
            "?x\t?y\n~\n", "?x\t?y\n\t~\t", "?x\n<a>~\t");
        truthFaults(0, "{\"head\":{},\"boolean\":~x", "{\"head\":{},\"boolean\":t~alse", "{\"head\":{},\"boolean\":f~rue", "{\"head\":{},\"boolean\":~1}");
        truthFaults(1, "<sparql><head></head><boolean>~x", "<sparql><head></head><boolean>t~alse", "<sparql><head></head><boolean>f~rue");
    }
}
