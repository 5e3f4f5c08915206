/** Promises 14 and 15 without faults: read, hear. */
final class ReadTest {
    public static void main(String[] args) {
        json();
        xml();
        commas();
        tabs();
        limits();
        full();
        whatStays();
        hears();
        Subject.end();
    }

    private static void reads(String what, int form, String tape, int rows, String told) {
        Subject s = new Subject();
        Subject.due(what, s.read(form, tape), rows);
        Subject.due(what, s.toldTable(), told);
        Subject.due(what + ", the tape", s.x.count(3), 0);
    }

    private static void json() {
        String all = "{\"head\":{\"vars\":[\"x\",\"y\"]},\"results\":{\"bindings\":["
            + "{\"x\":{\"type\":\"uri\",\"value\":\"a\"},\"y\":{\"type\":\"bnode\",\"value\":\"b\"}},{},"
            + "{\"y\":{\"type\":\"literal\",\"value\":\"\\\"\\\\\\t\\n\\r\\/\"}},"
            + "{\"x\":{\"type\":\"literal\",\"value\":\"\",\"xml:lang\":\"de\"},"
            + "\"y\":{\"type\":\"literal\",\"value\":\"/\",\"datatype\":\"real\"}}]}}";
        String told = "2 variables | 0/0/a 1/0/b | none none | none 2/0/\"\\\t\n\r/ | 3/82/ 4/1//";
        reads("form 0", 0, all, 4, told);
        for (String blanks : new String[] {" ", "\t", "\n", "\r", " \t\r\n "}) {
            reads("form 0 with blanks", 0, spaced(all, blanks), 4, told);
        }
        reads("slash in a node", 0, all.replace("\"value\":\"a\"", "\"value\":\"a\\/\""), 4, told.replace("0/0/a", "0/0/a/"));
        reads("no variables", 0, "{\"head\":{\"vars\":[ ]},\"results\":{\"bindings\":[ ]}}", 0, "0 variables");
    }

    /** Blanks before each { } [ ] : , and each quote that begins something, and behind all. */
    private static String spaced(String json, String blanks) {
        StringBuilder s = new StringBuilder();
        boolean inside = false;
        for (int i = 0; i < json.length(); i++) {
            char c = json.charAt(i);
            if (!inside) s.append(blanks);
            s.append(c);
            if (c == '\\') s.append(json.charAt(++i));
            else if (c == '"') inside = !inside;
        }
        return s.append(blanks).toString();
    }

    private static void xml() {
        reads("form 1", 1, "<sparql><head><variable name=\"x\"/><variable name=\"y\"/></head><results>"
            + "<result><binding name=\"x\"><uri>a</uri></binding><binding name=\"y\"><bnode>b</bnode></binding></result>"
            + "<result></result><result><binding name=\"y\"><literal>&amp;&lt;&gt;&#13;&quot;\"\t\n'</literal></binding></result>"
            + "<result><binding name=\"x\"><literal xml:lang=\"de\"></literal></binding>"
            + "<binding name=\"y\"><literal datatype=\"truth\">1</literal></binding></result></results></sparql>",
            4, "2 variables | 0/0/a 1/0/b | none none | none 2/0/&<>\r\"\"\t\n' | 3/82/ 4/2/1");
        reads("entity in a node", 1, "<sparql><head><variable name=\"x\"/></head><results><result><binding name=\"x\">"
            + "<uri>a&amp;b</uri></binding></result></results></sparql>", 1, "1 variables | 0/0/a&b");
    }

    private static void commas() {
        reads("form 2", 2, "x,y\r\na,_:b\r\n,\r\n\"\",\"_:b\"\r\n\"a\"\"\r\n\t,\",q\tr\r\n",
            4, "2 variables | 2/0/a 1/0/b | none none | 2/0/ 2/0/_:b | 2/0/a\"\r\n\t, 2/0/q\tr");
        reads("one variable", 2, "x\r\n\r\n_\r\n_a\r\na_:\r\n<u>\r\n\\\r\n", 6,
            "1 variables | none | 2/0/_ | 2/0/_a | 2/0/a_: | 2/0/<u> | 2/0/\\");
        reads("only quotes", 2, "x\r\n\"\"\"\"\r\n", 1, "1 variables | 2/0/\"");
        reads("no variables", 2, "\r\n\r\n\r\n", 2, "0 variables | |");
        reads("no rows", 2, "x,abcdefgh\r\n", 0, "2 variables");
    }

    private static void tabs() {
        reads("form 3", 3, "?x\t?y\n<a/>\t_:b\n\t\n\"\"\t\"\\\"\\\\\\t\\n\\r/\"\n\"a\"@de\t\"a\"^^whole\n",
            4, "2 variables | 0/0/a/ 1/0/b | none none | 2/0/ 2/0/\"\\\t\n\r/ | 3/82/a 4/0/a");
        reads("no variables", 3, "\n\n\n", 2, "0 variables | |");
        reads("no rows", 3, "?x\n", 0, "1 variables");
    }

    /** Six names of eight letters, 24 rows, a text of 20, a blank of 8. */
    private static void limits() {
        String names = "abcdefgh,b,c,d,e,f";
        String row = Subject.times("a", 20) + ",_:abcdef89,,,,\"" + Subject.times("\"\"", 20) + "\"\r\n";
        String told = " | 2/0/" + Subject.times("a", 20) + " 1/0/abcdef89 none none none 2/0/" + Subject.times("\"", 20);
        reads("most of all", 2, names + "\r\n" + Subject.times(row, 24), 24, "6 variables" + Subject.times(told, 24));
        reads("24 rows in form 0", 0, "{\"head\":{\"vars\":[]},\"results\":{\"bindings\":[{}" + Subject.times(",{}", 23)
            + "]}}", 24, "0 variables" + Subject.times(" |", 24));
        reads("24 rows in form 1", 1, "<sparql><head></head><results>" + Subject.times("<result></result>", 24)
            + "</results></sparql>", 24, "0 variables" + Subject.times(" |", 24));
        reads("24 rows in form 3", 3, Subject.times("\n", 25), 24, "0 variables" + Subject.times(" |", 24));
        String escaped = Subject.times("&quot;", 20);
        reads("20 escapes in form 1", 1, "<sparql><head><variable name=\"x\"/></head><results><result><binding name=\"x\">"
            + "<literal>" + escaped + "</literal></binding></result></results></sparql>", 1,
            "1 variables | 2/0/" + Subject.times("\"", 20));
        reads("20 escapes in form 3", 3, "?x\n\"" + Subject.times("\\\\", 20) + "\"\n", 1,
            "1 variables | 2/0/" + Subject.times("\\", 20));
        reads("node of 20 in form 3", 3, "?x\n<" + Subject.times("a", 20) + ">\n", 1,
            "1 variables | 0/0/" + Subject.times("a", 20));
    }

    private static void full() {
        Subject s = new Subject();
        for (int i = 0; i < 58; i++) s.term(2, 0, "t" + i);
        s.variable("old");
        s.row(5);
        Subject.due("three new ones", s.read(2, "x,y\r\nn,m\r\no,n\r\n"), ResultForms.FULL);
        Subject.due("terms stay", s.x.count(2), 58);
        Subject.due("the table stays", s.written(2), "old\r\nt5\r\n");
        Subject.due("the tape does not", s.x.count(3), 0);
        Subject.due("a fault comes before", s.read(2, "x,y\r\nn,m\r\no,n\r\n\""), -26);
        Subject.due("terms stay", s.x.count(2), 58);
        Subject.due("two new ones, and old ones", s.read(2, "x,y\r\nn,m\r\nt1,n\r\nm,t2\r\n"), 3);
        Subject.due("terms", s.x.count(2), 60);
        Subject.due("numbers", s.x.value(0, 0), 58);
        Subject.due("numbers", s.x.value(0, 1), 59);
        Subject.due("numbers", s.x.value(1, 0), 1);
        Subject.due("numbers", s.x.value(2, 0), 59);
        Subject.due("none new", s.read(2, "z\r\nt3\r\n"), 1);
        Subject.due("one new", s.read(2, "z\r\nnew\r\n"), ResultForms.FULL);
        StringBuilder wide = new StringBuilder("a,b,c,d,e,f\r\n");
        for (int r = 0; r < 24; r++) {
            for (int v = 0; v < 6; v++) wide.append(v > 0 ? "," : "").append("w").append(r * 6 + v);
            wide.append("\r\n");
        }
        Subject.due("144 new ones", s.read(2, wide.toString()), ResultForms.FULL);
        Subject.due("terms", s.x.count(2), 60);
        Subject.due("the table stays", s.written(2), "z\r\nt3\r\n");
    }

    private static void whatStays() {
        Subject s = new Subject();
        s.variable("x");
        s.row(s.term(2, 0, "a"));
        s.x.keep();
        Subject.due("a fault", s.read(2, "y\r\nb\r\nc\r\n\""), -20);
        Subject.due("the table stays", s.written(2), "x\r\na\r\n");
        Subject.due("terms stay", s.x.count(2), 1);
        Subject.due("the tape does not", s.x.count(3), 0);
        s.tape("x\r\na\r\n");
        Subject.due("read(4)", s.x.read(4), ResultForms.BAD);
        Subject.due("the tape does not", s.x.count(3), 0);
        s.tape("x\r\na\r\n");
        Subject.due("read(-1)", s.x.read(-1), ResultForms.BAD);
        Subject.due("the tape does not", s.x.count(3), 0);
        Subject.due("the table stays", s.written(2), "x\r\na\r\n");
        Subject.due("a good one", s.read(2, "y\r\nb\r\n\r\n"), 2);
        Subject.due("the out stays", s.out(), "x\r\na\r\n");
        Subject.due("the kept one stays", s.x.same(true), 0);
        Subject.due("and is as it was", s.read(2, "x\r\na\r\n"), 1);
        Subject.due("the kept one stays", s.x.same(true), 1);
        Subject.due("terms", s.x.count(2), 2);
    }

    private static void hears() {
        Subject s = new Subject();
        for (int form = 0; form <= 1; form++) {
            for (int v = 0; v <= 1; v++) {
                s.x.say(form, v == 1);
                s.x.pass();
                Subject.due("hear(" + form + ")", s.x.hear(form), v);
                Subject.due("the tape", s.x.count(3), 0);
            }
        }
        String blanks = " \t\r\n";
        Subject.due("with blanks", s.hear(0, "{\"head\":{},\"boolean\":true}".replace("{", blanks + "{")
            .replace("}", blanks + "}").replace(":", blanks + ":").replace(",", blanks + ",")
            .replace("\"boolean", blanks + "\"boolean").replace("\"head", blanks + "\"head")
            .replace("true", blanks + "true") + blanks), 1);
        s.tape("a");
        Subject.due("hear(2)", s.x.hear(2), ResultForms.BAD);
        Subject.due("the tape", s.x.count(3), 0);
        s.tape("a");
        Subject.due("hear(-1)", s.x.hear(-1), ResultForms.BAD);
        Subject.due("the tape", s.x.count(3), 0);
        s.row();
        s.hear(0, "{\"head\":{},\"boolean\":true}");
        Subject.due("the table stays", s.x.count(1), 1);
    }
}
