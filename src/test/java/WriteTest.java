/** Promises 11 and 12: write, say. */
final class WriteTest {
    public static void main(String[] args) {
        empty();
        everyKind();
        escapes();
        quoted();
        everyTagAndType();
        full();
        says();
        Subject.end();
    }

    private static void empty() {
        Subject s = new Subject();
        Subject.due("form 0", s.written(0), "{\"head\":{\"vars\":[]},\"results\":{\"bindings\":[]}}");
        Subject.due("form 1", s.written(1), "<sparql><head></head><results></results></sparql>");
        Subject.due("form 2", s.written(2), "\r\n");
        Subject.due("form 3", s.written(3), "\n");
        s.x.row();
        s.x.row();
        Subject.due("form 0", s.written(0), "{\"head\":{\"vars\":[]},\"results\":{\"bindings\":[{},{}]}}");
        Subject.due("form 1", s.written(1),
            "<sparql><head></head><results><result></result><result></result></results></sparql>");
        Subject.due("form 2", s.written(2), "\r\n\r\n\r\n");
        Subject.due("form 3", s.written(3), "\n\n\n");
        Subject.due("form 4", s.x.write(4), ResultForms.BAD);
        Subject.due("form -1", s.x.write(-1), ResultForms.BAD);
        Subject.due("the out stays", s.out(), "\n\n\n");
    }

    private static void everyKind() {
        Subject s = new Subject();
        s.variable("x");
        s.variable("yy");
        s.variable("z");
        int node = s.term(0, 0, "u:/a");
        int blank = s.term(1, 0, "b1");
        int plain = s.term(2, 0, "p q");
        int tagged = s.term(3, 26 * 4 + 13, "t");
        int typed = s.term(4, 3, "d");
        s.row(node, blank, plain);
        s.row(-1, tagged, -1);
        s.row(-1, -1, -1);
        s.row(typed, -1, node);
        Subject.due("form 0", s.written(0), "{\"head\":{\"vars\":[\"x\",\"yy\",\"z\"]},\"results\":{\"bindings\":["
            + "{\"x\":{\"type\":\"uri\",\"value\":\"u:/a\"},\"yy\":{\"type\":\"bnode\",\"value\":\"b1\"},"
            + "\"z\":{\"type\":\"literal\",\"value\":\"p q\"}},"
            + "{\"yy\":{\"type\":\"literal\",\"value\":\"t\",\"xml:lang\":\"en\"}},{},"
            + "{\"x\":{\"type\":\"literal\",\"value\":\"d\",\"datatype\":\"date\"},"
            + "\"z\":{\"type\":\"uri\",\"value\":\"u:/a\"}}]}}");
        Subject.due("form 1", s.written(1), "<sparql><head><variable name=\"x\"/><variable name=\"yy\"/>"
            + "<variable name=\"z\"/></head><results>"
            + "<result><binding name=\"x\"><uri>u:/a</uri></binding><binding name=\"yy\"><bnode>b1</bnode></binding>"
            + "<binding name=\"z\"><literal>p q</literal></binding></result>"
            + "<result><binding name=\"yy\"><literal xml:lang=\"en\">t</literal></binding></result><result></result>"
            + "<result><binding name=\"x\"><literal datatype=\"date\">d</literal></binding>"
            + "<binding name=\"z\"><uri>u:/a</uri></binding></result></results></sparql>");
        Subject.due("form 2", s.written(2), "x,yy,z\r\nu:/a,_:b1,p q\r\n,t,\r\n,,\r\nd,,u:/a\r\n");
        Subject.due("form 3", s.written(3), "?x\t?yy\t?z\n<u:/a>\t_:b1\t\"p q\"\n\t\"t\"@en\t\n\t\t\n"
            + "\"d\"^^date\t\t<u:/a>\n");
    }

    private static void escapes() {
        Subject s = new Subject();
        s.variable("x");
        s.row(s.term(2, 0, "\"\\/\t\n\r&<>'"));
        String head0 = "{\"head\":{\"vars\":[\"x\"]},\"results\":{\"bindings\":[{\"x\":{\"type\":\"literal\",\"value\":\"";
        Subject.due("form 0", s.written(0), head0 + "\\\"\\\\/\\t\\n\\r&<>'\"}}]}}");
        Subject.due("form 1", s.written(1), "<sparql><head><variable name=\"x\"/></head><results><result>"
            + "<binding name=\"x\"><literal>\"\\/\t\n&#13;&amp;&lt;&gt;'</literal></binding></result></results></sparql>");
        Subject.due("form 2", s.written(2), "x\r\n\"\"\"\\/\t\n\r&<>'\"\r\n");
        Subject.due("form 3", s.written(3), "?x\n\"\\\"\\\\/\\t\\n\\r&<>'\"\n");
        s.x.put(0, 0, s.term(0, 0, "a&b,/'"));
        Subject.due("node in form 0", s.written(0), head0.replace("literal", "uri") + "a&b,/'\"}}]}}");
        Subject.due("node in form 1", s.written(1), "<sparql><head><variable name=\"x\"/></head><results><result>"
            + "<binding name=\"x\"><uri>a&amp;b,/'</uri></binding></result></results></sparql>");
        Subject.due("node in form 3", s.written(3), "?x\n<a&b,/'>\n");
    }

    /** The value as form 2 writes it, for this kind and text. */
    private static String comma(int kind, String text) {
        Subject s = new Subject();
        s.variable("x");
        s.row(s.term(kind, 0, text));
        String out = s.written(2);
        return out.substring(3, out.length() - 2);
    }

    private static void quoted() {
        for (int kind = 2; kind <= 4; kind++) {
            Subject.due("empty", comma(kind, ""), "\"\"");
            Subject.due("blank's beginning", comma(kind, "_:"), "\"_:\"");
            Subject.due("blank's beginning", comma(kind, "_:a"), "\"_:a\"");
            Subject.due("not quite", comma(kind, "_"), "_");
            Subject.due("not quite", comma(kind, "_a:"), "_a:");
            Subject.due("not at its beginning", comma(kind, "a_:"), "a_:");
            Subject.due("comma", comma(kind, ","), "\",\"");
            Subject.due("quote", comma(kind, "a\"b"), "\"a\"\"b\"");
            Subject.due("quotes", comma(kind, "\"\""), "\"\"\"\"\"\"");
            Subject.due("10", comma(kind, "a\n"), "\"a\n\"");
            Subject.due("13", comma(kind, "\ra"), "\"\ra\"");
            Subject.due("9", comma(kind, "\t"), "\t");
            Subject.due("space", comma(kind, " "), " ");
        }
        Subject.due("node", comma(0, "a:b"), "a:b");
        Subject.due("node with comma", comma(0, "a,b"), "\"a,b\"");
        Subject.due("node like a blank", comma(0, "_:b"), "\"_:b\"");
        Subject.due("node not quite", comma(0, "_b"), "_b");
        Subject.due("blank", comma(1, "b"), "_:b");
    }

    private static void everyTagAndType() {
        String[] types = {"whole", "real", "truth", "date"};
        Subject s = new Subject();
        s.variable("x");
        s.x.row();
        for (int i = 0; i < 4; i++) {
            s.x.put(0, 0, s.term(4, i, "a"));
            Subject.due("type " + i, s.written(3), "?x\n\"a\"^^" + types[i] + "\n");
        }
        int[] tags = {0, 1, 25, 26, 27, 675};
        String[] names = {"aa", "ab", "az", "ba", "bb", "zz"};
        for (int i = 0; i < tags.length; i++) {
            s.x.put(0, 0, s.term(3, tags[i], "a"));
            Subject.due("tag " + tags[i], s.written(3), "?x\n\"a\"@" + names[i] + "\n");
        }
    }

    /** Form 2 of 24 rows of six cells can be brought to 3000 bytes and to one more. */
    private static void full() {
        Subject s = new Subject();
        for (int v = 0; v < 6; v++) s.variable(String.valueOf((char) ('a' + v)));
        int t20 = s.term(2, 0, Subject.times("q", 20));
        int most = 13;
        for (int r = 0; r < 24; r++) {
            s.x.row();
            most += 7;
        }
        int cells = 0;
        while (most + 20 <= 3000) {
            s.x.put(cells / 6, cells % 6, t20);
            cells++;
            most += 20;
        }
        int rest = 3000 - most;
        if (rest > 0) s.x.put(cells / 6, cells % 6, s.term(2, 0, Subject.times("r", rest)));
        Subject.due("exactly 3000", s.x.write(2), 3000);
        String before = s.out();
        s.x.put(cells / 6, cells % 6, s.term(2, 0, Subject.times("r", rest + 1)));
        Subject.due("one more", s.x.write(2), ResultForms.FULL);
        Subject.due("the out stays", s.out(), before);
        Subject.due("too much in form 0", s.x.write(0), ResultForms.FULL);
        Subject.due("too much in form 1", s.x.write(1), ResultForms.FULL);
        Subject.due("too much in form 3", s.x.write(3), ResultForms.FULL);
        Subject.due("the out stays", s.x.count(4), 3000);
        Subject.due("a truth fits again", s.x.say(0, true), 26);
        s.x.clear();
        Subject.due("a small table fits again", s.x.write(3), 1);
    }

    private static void says() {
        Subject s = new Subject();
        Subject.due("say(0, true)", s.x.say(0, true), 26);
        Subject.due("form 0", s.out(), "{\"head\":{},\"boolean\":true}");
        Subject.due("say(0, false)", s.x.say(0, false), 27);
        Subject.due("form 0", s.out(), "{\"head\":{},\"boolean\":false}");
        Subject.due("say(1, true)", s.x.say(1, true), 53);
        Subject.due("form 1", s.out(), "<sparql><head></head><boolean>true</boolean></sparql>");
        Subject.due("say(1, false)", s.x.say(1, false), 54);
        Subject.due("form 1", s.out(), "<sparql><head></head><boolean>false</boolean></sparql>");
        Subject.due("say(2, true)", s.x.say(2, true), ResultForms.BAD);
        Subject.due("say(3, true)", s.x.say(3, true), ResultForms.BAD);
        Subject.due("say(-1, true)", s.x.say(-1, true), ResultForms.BAD);
        Subject.due("the out stays", s.x.count(4), 54);
    }
}
