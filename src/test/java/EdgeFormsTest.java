/** The document's FORMS: for each sentence, nothing, one, the most, and each byte that is or is not escaped. */
final class EdgeFormsTest {
    private static final int BAD = ResultForms.BAD;

    public static void main(String[] args) {
        commasBetween();
        nothingInForm0();
        nothingInForm1();
        nothingInForm2();
        nothingInForm3();
        mostOfAll();
        boundOnly();
        kindsInForm0();
        kindsInForm1();
        kindsInForm3();
        escapesOfForm0();
        escapesOfForm1();
        quotesOfForm2();
        quotedBeginnings();
        nodesOfForm2();
        blanksOfForm2();
        escapesOfForm3();
        nodesOfForm3();
        truths();
        Subject.end();
    }

    /** A table of so many variables, a, b, .., and rows, in which all is one term or (-1) none. */
    private static Subject table(int variables, int rows, int kind, int extra, String text) {
        Subject s = new Subject();
        for (int v = 0; v < variables; v++) s.variable(String.valueOf((char) ('a' + v)));
        int t = kind < 0 ? -1 : s.term(kind, extra, text);
        for (int r = 0; r < rows; r++) {
            s.x.row();
            for (int v = 0; v < variables; v++) s.x.put(r, v, t);
        }
        return s;
    }

    private static String one(int form, int kind, int extra, String text) {
        return table(1, 1, kind, extra, text).written(form);
    }

    private static void commasBetween() {
        Subject.sentence("where more of a sort follow one another in form 0 there is , between them");
        String bound = ":{\"type\":\"uri\",\"value\":\"u\"}";
        for (int variables = 0; variables <= 6; variables++) {
            for (int rows = 0; rows <= 3; rows++) {
                StringBuilder names = new StringBuilder();
                StringBuilder row = new StringBuilder();
                for (int v = 0; v < variables; v++) {
                    String name = (v > 0 ? "," : "") + "\"" + (char) ('a' + v) + "\"";
                    names.append(name);
                    row.append(name).append(bound);
                }
                String all = rows == 0 ? "" : "{" + row + "}" + Subject.times(",{" + row + "}", rows - 1);
                Subject.due(variables + " variables and " + rows + " rows", table(variables, rows, 0, 0, "u").written(0),
                    "{\"head\":{\"vars\":[" + names + "]},\"results\":{\"bindings\":[" + all + "]}}");
            }
        }
    }

    private static void nothingInForm0() {
        Subject.sentence("{\"head\":{\"vars\":[ \"N\" for each variable ]},\"results\":{\"bindings\":[ for each row");
        Subject.due("nothing", table(0, 0, -1, 0, "").written(0), "{\"head\":{\"vars\":[]},\"results\":{\"bindings\":[]}}");
        Subject.due("no row", table(1, 0, -1, 0, "").written(0), "{\"head\":{\"vars\":[\"a\"]},\"results\":{\"bindings\":[]}}");
        Subject.due("no variable", table(0, 1, -1, 0, "").written(0), "{\"head\":{\"vars\":[]},\"results\":{\"bindings\":[{}]}}");
        Subject.due("no term", table(1, 1, -1, 0, "").written(0), "{\"head\":{\"vars\":[\"a\"]},\"results\":{\"bindings\":[{}]}}");
    }

    private static void nothingInForm1() {
        Subject.sentence("<sparql><head> for each variable <variable name=\"N\"/> then </head><results> for each row <result>");
        String name = "<variable name=\"a\"/>";
        String row = "<result></result>";
        Subject.due("nothing", table(0, 0, -1, 0, "").written(1), "<sparql><head></head><results></results></sparql>");
        Subject.due("no row", table(1, 0, -1, 0, "").written(1), "<sparql><head>" + name + "</head><results></results></sparql>");
        Subject.due("no variable", table(0, 1, -1, 0, "").written(1), "<sparql><head></head><results>" + row + "</results></sparql>");
        Subject.due("no term", table(1, 1, -1, 0, "").written(1), "<sparql><head>" + name + "</head><results>" + row + "</results></sparql>");
    }

    private static void nothingInForm2() {
        Subject.sentence("a LINE of all names, one for each row of all values, with , between; a line ends with 13 10."
            + " A value is nothing for none (so a table with no variable has lines of nothing)");
        Subject.due("nothing", table(0, 0, -1, 0, "").written(2), "\r\n");
        Subject.due("no row", table(1, 0, -1, 0, "").written(2), "a\r\n");
        Subject.due("no variable", table(0, 1, -1, 0, "").written(2), "\r\n\r\n");
        Subject.due("no variable, 24 rows", table(0, 24, -1, 0, "").written(2), Subject.times("\r\n", 25));
        Subject.due("no term", table(1, 1, -1, 0, "").written(2), "a\r\n\r\n");
        Subject.due("no terms", table(3, 2, -1, 0, "").written(2), "a,b,c\r\n,,\r\n,,\r\n");
    }

    private static void nothingInForm3() {
        Subject.sentence("likewise with byte 9 between, and 10 at a line's end; ? before each name; values: nothing");
        Subject.due("nothing", table(0, 0, -1, 0, "").written(3), "\n");
        Subject.due("no row", table(1, 0, -1, 0, "").written(3), "?a\n");
        Subject.due("no variable", table(0, 1, -1, 0, "").written(3), "\n\n");
        Subject.due("no variable, 24 rows", table(0, 24, -1, 0, "").written(3), Subject.times("\n", 25));
        Subject.due("no term", table(1, 1, -1, 0, "").written(3), "?a\n\n");
        Subject.due("no terms", table(3, 2, -1, 0, "").written(3), "?a\t?b\t?c\n\t\t\n\t\t\n");
    }

    private static void mostOfAll() {
        Subject.sentence("for each row, for each variable");
        String names = "a,b,c,d,e,f";
        Subject s = table(6, 24, 1, 0, "b");
        Subject.due("form 2", s.x.write(2), 13 + 24 * (6 * 3 + 5 + 2));
        Subject.due("form 3", s.x.write(3), 18 + 24 * (6 * 3 + 5 + 1));
        Subject none = table(6, 24, -1, 0, "");
        Subject.due("form 2 of none", none.written(2), names + "\r\n" + Subject.times(",,,,,\r\n", 24));
        Subject.due("form 3 of none", none.x.write(3), 18 + 24 * 6);
        Subject.due("form 0 of none", none.x.write(0), 46 + 6 * 3 + 5 + 24 * 2 + 23);
        Subject.due("form 1 of none", none.x.write(1), 49 + 6 * 20 + 24 * 17);
    }

    private static void boundOnly() {
        Subject.sentence("for each variable that has a term, in their order");
        for (int mask = 0; mask < 8; mask++) {
            Subject s = table(3, 1, -1, 0, "");
            int t = s.term(1, 0, "b");
            StringBuilder row0 = new StringBuilder();
            StringBuilder row1 = new StringBuilder();
            StringBuilder row2 = new StringBuilder();
            StringBuilder row3 = new StringBuilder();
            for (int v = 0; v < 3; v++) {
                char name = (char) ('a' + v);
                boolean has = (mask >> v & 1) == 1;
                if (has) s.x.put(0, v, t);
                if (has) row0.append(row0.length() > 0 ? "," : "").append("\"" + name + "\":{\"type\":\"bnode\",\"value\":\"b\"}");
                if (has) row1.append("<binding name=\"" + name + "\"><bnode>b</bnode></binding>");
                row2.append(v > 0 ? "," : "").append(has ? "_:b" : "");
                row3.append(v > 0 ? "\t" : "").append(has ? "_:b" : "");
            }
            Subject.due("form 0", s.written(0), "{\"head\":{\"vars\":[\"a\",\"b\",\"c\"]},\"results\":{\"bindings\":[{" + row0 + "}]}}");
            Subject.due("form 1", s.written(1), "<sparql><head><variable name=\"a\"/><variable name=\"b\"/><variable name=\"c\"/></head>"
                + "<results><result>" + row1 + "</result></results></sparql>");
            Subject.due("form 2", s.written(2), "a,b,c\r\n" + row2 + "\r\n");
            Subject.due("form 3", s.written(3), "?a\t?b\t?c\n" + row3 + "\n");
        }
    }

    private static final String BEFORE0 = "{\"head\":{\"vars\":[\"a\"]},\"results\":{\"bindings\":[{\"a\":{\"type\":\"";
    private static final String BEFORE1 = "<sparql><head><variable name=\"a\"/></head><results><result><binding name=\"a\">";
    private static final String BEHIND1 = "</binding></result></results></sparql>";

    private static void kindsInForm0() {
        Subject.sentence("T being uri, bnode, or literal for all others; behind the value's \" for kind 3 ,\"xml:lang\":\"TAG\""
            + " and for kind 4 ,\"datatype\":\"TYPE\"");
        Subject.due("node", one(0, 0, 0, "t"), BEFORE0 + "uri\",\"value\":\"t\"}}]}}");
        Subject.due("blank", one(0, 1, 0, "t"), BEFORE0 + "bnode\",\"value\":\"t\"}}]}}");
        Subject.due("plain", one(0, 2, 0, "t"), BEFORE0 + "literal\",\"value\":\"t\"}}]}}");
        Subject.due("tagged", one(0, 3, 0, "t"), BEFORE0 + "literal\",\"value\":\"t\",\"xml:lang\":\"aa\"}}]}}");
        Subject.due("tagged", one(0, 3, 675, ""), BEFORE0 + "literal\",\"value\":\"\",\"xml:lang\":\"zz\"}}]}}");
        Subject.due("typed", one(0, 4, 0, "t"), BEFORE0 + "literal\",\"value\":\"t\",\"datatype\":\"whole\"}}]}}");
        Subject.due("typed", one(0, 4, 3, ""), BEFORE0 + "literal\",\"value\":\"\",\"datatype\":\"date\"}}]}}");
    }

    private static void kindsInForm1() {
        Subject.sentence("VALUE is <uri>E</uri>, <bnode>E</bnode>, <literal>E</literal>, or with <literal xml:lang=\"TAG\">,"
            + " <literal datatype=\"TYPE\">");
        Subject.due("node", one(1, 0, 0, "t"), BEFORE1 + "<uri>t</uri>" + BEHIND1);
        Subject.due("blank", one(1, 1, 0, "t"), BEFORE1 + "<bnode>t</bnode>" + BEHIND1);
        Subject.due("plain", one(1, 2, 0, ""), BEFORE1 + "<literal></literal>" + BEHIND1);
        Subject.due("tagged", one(1, 3, 0, "t"), BEFORE1 + "<literal xml:lang=\"aa\">t</literal>" + BEHIND1);
        Subject.due("tagged", one(1, 3, 675, ""), BEFORE1 + "<literal xml:lang=\"zz\"></literal>" + BEHIND1);
        Subject.due("typed", one(1, 4, 0, "t"), BEFORE1 + "<literal datatype=\"whole\">t</literal>" + BEHIND1);
        Subject.due("typed", one(1, 4, 3, ""), BEFORE1 + "<literal datatype=\"date\"></literal>" + BEHIND1);
    }

    private static void kindsInForm3() {
        Subject.sentence("<E> (kind 0, E as it is), _:E, \"E\", \"E\"@TAG, \"E\"^^TYPE");
        Subject.due("node", one(3, 0, 0, "t"), "?a\n<t>\n");
        Subject.due("blank", one(3, 1, 0, "t"), "?a\n_:t\n");
        Subject.due("plain", one(3, 2, 0, ""), "?a\n\"\"\n");
        Subject.due("tagged", one(3, 3, 0, "t"), "?a\n\"t\"@aa\n");
        Subject.due("tagged", one(3, 3, 675, ""), "?a\n\"\"@zz\n");
        Subject.due("typed", one(3, 4, 0, "t"), "?a\n\"t\"^^whole\n");
        Subject.due("typed", one(3, 4, 3, ""), "?a\n\"\"^^date\n");
    }

    private static final String TEXT_BYTES = textBytes();

    private static String textBytes() {
        StringBuilder s = new StringBuilder("\t\n\r");
        for (char c = 32; c <= 126; c++) s.append(c);
        return s.toString();
    }

    private static String backslashed(char c) {
        switch (c) {
            case '"': return "\\\"";
            case '\\': return "\\\\";
            case '\t': return "\\t";
            case '\n': return "\\n";
            case '\r': return "\\r";
            default: return String.valueOf(c);
        }
    }

    private static void escapesOfForm0() {
        Subject.sentence("Escaped are \" and \\ with a \\ before them, 9, 10, 13 as \\t \\n \\r.");
        for (char c : TEXT_BYTES.toCharArray()) {
            Subject.due("byte " + (int) c, one(0, 2, 0, "x" + c + c), BEFORE0 + "literal\",\"value\":\"x"
                + backslashed(c) + backslashed(c) + "\"}}]}}");
        }
        Subject.due("20 of them", one(0, 2, 0, Subject.times("\\", 20)), BEFORE0 + "literal\",\"value\":\""
            + Subject.times("\\", 40) + "\"}}]}}");
    }

    private static void escapesOfForm1() {
        Subject.sentence("Escaped are & < > as &amp; &lt; &gt;, and 13 as &#13;.");
        for (char c : TEXT_BYTES.toCharArray()) {
            String want = c == '&' ? "&amp;" : c == '<' ? "&lt;" : c == '>' ? "&gt;" : c == '\r' ? "&#13;" : String.valueOf(c);
            Subject.due("byte " + (int) c, one(1, 2, 0, "x" + c + c), BEFORE1 + "<literal>x" + want + want + "</literal>" + BEHIND1);
        }
        Subject.due("20 of them", one(1, 2, 0, Subject.times("&", 20)), BEFORE1 + "<literal>" + Subject.times("&amp;", 20)
            + "</literal>" + BEHIND1);
        Subject.due("in a node", one(1, 0, 0, "&"), BEFORE1 + "<uri>&amp;</uri>" + BEHIND1);
    }

    private static void quotesOfForm2() {
        Subject.sentence("It is QUOTED (\" before and behind it, each \" in it twice) when it is the text of kind 2, 3, 4 and is empty,"
            + " begins with _: or has one of , \" 10 13");
        for (char c : TEXT_BYTES.toCharArray()) {
            boolean isQuoted = c == ',' || c == '"' || c == '\n' || c == '\r';
            for (String text : new String[] {"" + c, c + "x", "x" + c, "x" + c + c + "x"}) {
                String want = isQuoted ? "\"" + text.replace("\"", "\"\"") + "\"" : text;
                for (int kind = 2; kind <= 4; kind++) Subject.due("kind " + kind + " with byte " + (int) c, one(2, kind, 0, text), "a\r\n" + want + "\r\n");
            }
        }
        for (int kind = 2; kind <= 4; kind++) {
            Subject.due("empty", one(2, kind, 0, ""), "a\r\n\"\"\r\n");
            Subject.due("20 quotes", one(2, kind, 0, Subject.times("\"", 20)), "a\r\n\"" + Subject.times("\"", 40) + "\"\r\n");
        }
    }

    private static void quotedBeginnings() {
        Subject.sentence("It is QUOTED when it is the text of kind 2, 3, 4 and begins with _:");
        for (int kind = 2; kind <= 4; kind++) {
            for (String text : new String[] {"_:", "_:a", "_: ", "_::", "_:" + Subject.times("z", 18)}) {
                Subject.due("kind " + kind + " of " + text, one(2, kind, 0, text), "a\r\n\"" + text + "\"\r\n");
            }
            for (String text : new String[] {"_", ":", "__:", ":_", "_ :", " _:", "a_:", "_a:"}) {
                Subject.due("kind " + kind + " of " + text, one(2, kind, 0, text), "a\r\n" + text + "\r\n");
            }
        }
    }

    private static void nodesOfForm2() {
        Subject.sentence("or that of kind 0 and has a comma, or begins with _:");
        for (String text : new String[] {",", "a,", ",a", "_:", "_:a", "_:,"}) {
            Subject.due("node " + text, one(2, 0, 0, text), "a\r\n\"" + text + "\"\r\n");
        }
        for (String text : new String[] {"_", ":", "a_:", "__:", "'", ";", "a"}) {
            Subject.due("node " + text, one(2, 0, 0, text), "a\r\n" + text + "\r\n");
        }
    }

    private static void blanksOfForm2() {
        Subject.sentence("_: and the text for kind 1");
        Subject.due("of 1", one(2, 1, 0, "0"), "a\r\n_:0\r\n");
        Subject.due("of 8", one(2, 1, 0, "abcdefgh"), "a\r\n_:abcdefgh\r\n");
    }

    private static void escapesOfForm3() {
        Subject.sentence("escaped as in form 0");
        for (char c : TEXT_BYTES.toCharArray()) {
            String want = "\"x" + backslashed(c) + backslashed(c) + "\"";
            Subject.due("byte " + (int) c, one(3, 2, 0, "x" + c + c), "?a\n" + want + "\n");
            Subject.due("byte " + (int) c + ", tagged", one(3, 3, 1, "x" + c + c), "?a\n" + want + "@ab\n");
            Subject.due("byte " + (int) c + ", typed", one(3, 4, 1, "x" + c + c), "?a\n" + want + "^^real\n");
        }
    }

    private static void nodesOfForm3() {
        Subject.sentence("<E> (kind 0, E as it is)");
        for (char c = 33; c <= 126; c++) {
            if ("\"<>\\^`{|}".indexOf(c) < 0) Subject.due("byte " + (int) c, one(3, 0, 0, "" + c), "?a\n<" + c + ">\n");
        }
    }

    private static void truths() {
        Subject.sentence("A TRUTH V, true or false, is in form 0 {\"head\":{},\"boolean\":V}, in form 1"
            + " <sparql><head></head><boolean>V</boolean></sparql>; there is none in forms 2, 3.");
        for (int v = 0; v <= 1; v++) {
            boolean truth = v == 1;
            Subject s = table(1, 1, 2, 0, "t");
            s.x.keep();
            String json = "{\"head\":{},\"boolean\":" + truth + "}";
            String xml = "<sparql><head></head><boolean>" + truth + "</boolean></sparql>";
            Subject.due("form 0", s.x.say(0, truth), json.length());
            Subject.due("form 0", s.out(), json);
            Subject.due("form 1", s.x.say(1, truth), xml.length());
            Subject.due("form 1", s.out(), xml);
            s.refused("form 2", BAD, () -> s.x.say(2, truth));
            s.refused("form 3", BAD, () -> s.x.say(3, truth));
            s.refusedTaking("hear(2)", BAD, truth + "\r\n", () -> s.x.hear(2));
            s.refusedTaking("hear(3)", BAD, truth + "\n", () -> s.x.hear(3));
        }
    }
}
