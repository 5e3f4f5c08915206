/** Promises 14 and 15: which fault is told, and where. In each tape here a ~ stands before the byte that is told. */
final class FaultTest {
    private static final String HEAD0 = "{\"head\":{\"vars\":[\"x\",\"y\"]},\"results\":{\"bindings\":[";
    private static final String HEAD1 =
        "<sparql><head><variable name=\"x\"/><variable name=\"y\"/></head><results><result>";

    public static void main(String[] args) {
        jsonHead();
        jsonRows();
        jsonTexts();
        xmlHead();
        xmlRows();
        xmlTexts();
        commaHead();
        commaRows();
        tabHead();
        tabRows();
        truths();
        cutTapes();
        Subject.end();
    }

    private static void faults(int form, String... tapes) {
        for (String marked : tapes) {
            Subject s = new Subject();
            s.variable("old");
            s.row();
            int place = marked.indexOf('~');
            String tape = marked.replace("~", "");
            Subject.due("read(" + form + ") of " + Subject.shown(marked), s.read(form, tape), -10 - place);
            Subject.due("the tape", s.x.count(3), 0);
            Subject.due("no terms", s.x.count(2), 0);
            Subject.due("the table stays", s.written(2), "old\r\n\r\n");
        }
    }

    private static void jsonHead() {
        faults(0, "~", "~x", " \t\r\n~x", "{~", "{ ~x", "{\"~\"", "{\"he~d\"", "{\"head~ \"", "{\"head\"~,", "{\"head\":~[",
            "{\"head\":{~}", "{\"head\":{\"vars\":~{", "{\"head\":{\"vars\":[~", "{\"head\":{\"vars\":[~x",
            "{\"head\":{\"vars\":[~,", "{\"head\":{\"vars\":[\"~\"", "{\"head\":{\"vars\":[\"~X\"", "{\"head\":{\"vars\":[\"~ x\"",
            "{\"head\":{\"vars\":[\"~abcdefghi\"", "{\"head\":{\"vars\":[\"x~X\"", "{\"head\":{\"vars\":[\"x~ \"",
            "{\"head\":{\"vars\":[\"x~", "{\"head\":{\"vars\":[\"x\"~\"", "{\"head\":{\"vars\":[\"x\" ~}",
            "{\"head\":{\"vars\":[\"x\",~]", "{\"head\":{\"vars\":[\"x\",\"~x\"", "{\"head\":{\"vars\":[\"x\",\"y\",\"~x\"",
            "{\"head\":{\"vars\":[\"x\",\"xy\",\"~xy\"",
            "{\"head\":{\"vars\":[\"a\",\"b\",\"c\",\"d\",\"e\",\"f\",\"~g\"]",
            "{\"head\":{\"vars\":[\"a\",\"b\",\"c\",\"d\",\"e\",\"f\",~]",
            "{\"head\":{\"vars\":[\"a\",\"b\",\"c\",\"d\",\"e\",\"f\"~}",
            "{\"head\":{\"vars\":[]~,", "{\"head\":{\"vars\":[]}~}", "{\"head\":{\"vars\":[]},\"re~zults\"",
            "{\"head\":{\"vars\":[]},\"results\":{\"bindings\":[]}}~x", "{\"head\":{\"vars\":[]},\"results\":{\"bindings\":[]}} \n~x",
            "{\"head\":{\"vars\":[]},\"results\":{\"bindings\":[]}~", "{\"head\":{\"vars\":[]},\"results\":{\"bindings\":[]}~,",
            "{\"head\":{\"vars\":[]},\"results\":{\"bindings\":[]~]");
    }

    private static void jsonRows() {
        String x = "{\"x\":{\"type\":\"uri\",\"value\":\"a\"";
        String literal = "{\"x\":{\"type\":\"literal\",\"value\":\"a\"";
        String[] rows = {"~", "~x", "~,", "{},~]", "{}~{", "{} ~}", "{~x", "{~,", "{\"~\"", "{\"~z\"", "{\"~xx\"", "{\"~X\"",
            "{\"x~X", "{\"x\"~,", "{\"x\":~\"", "{\"x\":{\"~value\"", "{\"x\":{\"type\":~u", "{\"x\":{\"type\":\"~\"",
            "{\"x\":{\"type\":\"~url\"", "{\"x\":{\"type\":\"~ari\"", "{\"x\":{\"type\":\"~urix\"", "{\"x\":{\"type\":\"~literals\"", "{\"x\":{\"type\":\"~bnod\"",
            "{\"x\":{\"type\":\"uri~", "{\"x\":{\"type\":\"uri~ \"", "{\"x\":{\"type\":\"uri\"~}", "{\"x\":{\"type\":\"uri\",\"~type\"",
            x + "~", x + "~]", x + "~,\"xml:lang\":\"en\"", x + "}~]", x + "},~}", x + "},\"~x\"", x + "},\"~z\"",
            "{\"y\":{\"type\":\"uri\",\"value\":\"a\"},\"~x\"", "{\"y\":{\"type\":\"uri\",\"value\":\"a\"},\"~y\"",
            "{\"x\":{\"type\":\"bnode\",\"value\":\"a\"~,\"datatype\":\"date\"",
            literal + "~x", literal + ",~}", literal + ",\"~lang", literal + ",\"xml~-lang", literal + ",\"d~te",
            literal + ",\"xml:lang\"~,", literal + ",\"xml:lang\":\"~\"", literal + ",\"xml:lang\":\"~e\"",
            literal + ",\"xml:lang\":\"~eng\"", literal + ",\"xml:lang\":\"~EN\"", literal + ",\"xml:lang\":\"en~-",
            literal + ",\"xml:lang\":\"en\"~,", literal + ",\"xml:lang\":\"en\"~,\"datatype\":\"date\"",
            literal + ",\"datatype\":\"~\"", literal + ",\"datatype\":\"~int\"", literal + ",\"datatype\":\"~dates\"",
            literal + ",\"datatype\":\"~dat\"", literal + ",\"datatype\":\"~late\"", literal + ",\"datatype\":\"date~1\"", literal + ",\"datatype\":~date"};
        for (String row : rows) faults(0, HEAD0 + row);
        String empty = "{\"head\":{\"vars\":[]},\"results\":{\"bindings\":[";
        faults(0, empty + "{}" + Subject.times(",{}", 23) + ",~{}]}}", empty + "{}" + Subject.times(",{}", 23) + ", ~{",
            empty + "{}" + Subject.times(",{}", 23) + ",~x", sixBound() + ",\"~g\":", sixBound() + ",\"~f\":", sixBound() + ",~}", empty + "{}" + Subject.times(",{}", 23) + "~x", empty + "{\"~x\"");
    }

    /** A row of form 0 in which all of six variables have a term. */
    private static String sixBound() {
        StringBuilder head = new StringBuilder();
        StringBuilder row = new StringBuilder();
        for (char c = 'a'; c <= 'f'; c++) {
            String comma = c == 'a' ? "" : ",";
            head.append(comma).append('"').append(c).append('"');
            row.append(comma).append('"').append(c).append("\":{\"type\":\"uri\",\"value\":\"u\"}");
        }
        return "{\"head\":{\"vars\":[" + head + "]},\"results\":{\"bindings\":[{" + row;
    }

    private static void jsonTexts() {
        String uri = HEAD0 + "{\"x\":{\"type\":\"uri\",\"value\":\"";
        String bnode = HEAD0 + "{\"x\":{\"type\":\"bnode\",\"value\":\"";
        String literal = HEAD0 + "{\"x\":{\"type\":\"literal\",\"value\":\"";
        String a20 = Subject.times("a", 20);
        faults(0, literal + "a~", literal + "a~\t\"", literal + "a~\n\"", literal + "a~\r\"", literal + "a~\u0001\"",
            literal + "a~\u007f\"", literal + "a~\u00ff\"", literal + "a~\\q\"", literal + "a~\\", literal + "a~\\u0041\"",
            literal + a20 + "~a\"", literal + a20 + "~\\n\"", literal + a20 + "~\\", literal + a20 + "~\t", literal + a20 + "~",
            literal + Subject.times("\\\\", 20) + "~\\\\\"", literal + "a\"~a");
        faults(0, uri + "~\"}", uri + "~a b\"}", uri + "~a\\\\\"}", uri + "~a\\n\"}", uri + "~a<\"}", uri + "a b~", uri + "a b~\t\"",
            uri + "a b~\\q\"", uri + "~a b\"x", uri + a20 + "~a\"", uri + Subject.times(" ", 20) + "~a\"");
        faults(0, bnode + "~\"}", bnode + "~aB\"}", bnode + "~abcdefghi\"}", bnode + "~a-\"}", bnode + "abcdefghi~",
            bnode + a20 + "~a\"", bnode + "~" + a20 + "\"");
    }

    private static void xmlHead() {
        String six = "";
        for (char c = 'a'; c <= 'f'; c++) six += "<variable name=\"" + c + "\"/>";
        faults(1, "~", "~ <sparql>", "<sparq~>", "<sparql>~", "<sparql>~ <head>", "<sparql><head>~", "<sparql><head>~x",
            "<sparql><head><~x", "<sparql><head><~", "<sparql><head></~x", "<sparql><head><vari~x", "<sparql><head><variable~>",
            "<sparql><head><variable name=~x", "<sparql><head><variable name=\"~\"", "<sparql><head><variable name=\"~X\"",
            "<sparql><head><variable name=\"~abcdefghi\"", "<sparql><head><variable name=\"x~1\"",
            "<sparql><head><variable name=\"x\"~>", "<sparql><head><variable name=\"x\"/>~ ",
            "<sparql><head><variable name=\"x\"/><variable name=\"~x\"/>",
            "<sparql><head>" + six + "<variable name=\"~g\"/>", "<sparql><head>" + six + "<~x", "<sparql><head>" + six + "~x",
            "<sparql><head></head>~", "<sparql><head></head><~boolean>", "<sparql><head></head><results>~x",
            "<sparql><head></head><results></results></sparql>~ ", "<sparql><head></head><results></results></sparql>~\n",
            "<sparql><head></head><results></results>~", "<sparql><head></head><results></result~></sparql>");
    }

    private static void xmlRows() {
        String x = "<binding name=\"x\">";
        String[] rows = {"~", "~x", "<~", "<~x", "</~x", "</result>~x", "</result><~x", "</result></result~>", "<bind~x", "<bind~</results></sparql>",
            "<bind~<result></result></results></sparql>", x + "<uri>a</~</results></sparql>", x + "<uri>a</uri></~</results></sparql>",
            "<binding name=\"~\"", "<binding name=\"~z\"", "<binding name=\"~xx\"", "<binding name=\"x~X", "<binding name=\"x\"~/>",
            x + "~", x + "~a", x + "<~", x + "<~x", x + "<~/binding>", x + "<u~x", x + "<uri~ ", x + "<b~inding", x + "<bnode~/",
            x + "<lit~x", x + "<literal~x", x + "<literal~/>", x + "<literal ~>", x + "<literal ~lang", x + "<literal x~x",
            x + "<literal d~x", x + "<literal xml:lang=~e", x + "<literal xml:lang=\"~\"", x + "<literal xml:lang=\"~eng\"",
            x + "<literal xml:lang=\"en~1", x + "<literal xml:lang=\"en\"~ ", x + "<literal datatype=\"~int\"",
            x + "<literal datatype=\"~\"", x + "<literal datatype=\"date\"~/", x + "<uri>a<~uri>", x + "<uri>a</~b", x + "<uri>a</uri~x",
            x + "<uri>a</uri>~x", x + "<uri>a</uri><~x", x + "<uri>a</uri></~x", x + "<literal>a</~uri>", x + "<bnode>a</~uri>",
            x + "<uri>a</uri></binding>~x", x + "<uri>a</uri></binding><binding name=\"~x\"",
            "<binding name=\"y\"><uri>a</uri></binding><binding name=\"~x\"",
            "<binding name=\"y\"><uri>a</uri></binding><binding name=\"~z\"",
            x + "<uri>a</uri></binding><binding name=\"y\"><uri>a</uri></binding><binding name=\"~y\""};
        for (String row : rows) faults(1, HEAD1 + row);
        String rows24 = "<sparql><head></head><results>" + Subject.times("<result></result>", 24);
        faults(1, rows24 + "~<result></result></results></sparql>", rows24 + "~<result>", rows24 + "~x", rows24 + "</~x", rows24 + "~",
            "<sparql><head></head><results><result><binding name=\"~x\"");
    }

    private static void xmlTexts() {
        String uri = HEAD1 + "<binding name=\"x\"><uri>";
        String bnode = HEAD1 + "<binding name=\"x\"><bnode>";
        String literal = HEAD1 + "<binding name=\"x\"><literal>";
        String a20 = Subject.times("a", 20);
        faults(1, literal + "a~", literal + "a~>", literal + "a~\r<", literal + "a~\u0000<", literal + "a~\u0080<", literal + "a~&",
            literal + "a~&b;", literal + "a~&amp", literal + "a~&am", literal + "a~&AMP;", literal + "a~&#10;", literal + "a~&#13<",
            literal + "a~&apos;", literal + a20 + "~a", literal + a20 + "~&amp;", literal + a20 + "~&", literal + a20 + "~>",
            literal + a20 + "~", literal + a20 + "<~x", literal + Subject.times("&lt;", 20) + "~&lt;");
        faults(1, uri + "~</uri>", uri + "~a b</uri>", uri + "~a b<", uri + "a b~", uri + "a b~>", uri + "a b~&", uri + "~a\t<",
            uri + "~a&lt;<", uri + "~a&#13;<", uri + "~a\"<", uri + "~a\\<", uri + a20 + "~a<", uri + Subject.times(" ", 20) + "~a<");
        faults(1, bnode + "~</bnode>", bnode + "~A<", bnode + "~abcdefghi<", bnode + "abcdefghi~", bnode + a20 + "~a<");
    }

    private static void commaHead() {
        faults(2, "~", "~\n", "~,", "~X\r\n", "~\"x\"\r\n", "~?x", "~ x", "\r~", "\r~\r", "\r~x", "x~", "x~\n", "x~ ", "x~X", "x\r~", "x\r~x",
            "x,~", "x,~\r\n", "x,~,", "x,~x\r\n", "x,y,~x\r\n", "~abcdefghi\r\n", "a,~abcdefghi,",
            "a,b,c,d,e,f,~g\r\n", "a,b,c,d,e,f,~\r\n", "a,b,c,d,e,f~1\r\n");
    }

    private static void commaRows() {
        String a20 = Subject.times("a", 20);
        String[] rows = {"a~", "a~\r\n", "a~\n", "a~\"", "a~\u0001", "a,b~,", "a,b~", "a,b~\n", "a,b\r~", "a,b\r~a", ",~", ",~,", ",~\n",
            "a,\"~", "a,\"b~", "a,\"b\"~", "a,\"b\"~b", "a,\"b\"\"~", "a,\"b~\u0001\"", "a,\"b~\u0080\"", "a,\"" + a20 + "~a", "a,\"" + a20 + "~",
            "a,\"" + a20 + "~\"\"\"", "a,\"" + a20 + "\"~a", a20 + "~a", a20 + "~\"", a20 + "~\r\n", a20 + "~ ,", "_:~,a", "_:~", "_:~A", "_:a~A",
            "_:a~-,", "_:a~\"", "_:~abcdefghi,", "_:~abcdefghi", "_:abcdefgh~-", "\"_:a\"~a", "_~\"", "a,b\r\n~\r\n", "a,b\r\na~", "~\u0001", "~\n", "~\r\n"};
        for (String row : rows) faults(2, "x,y\r\n" + row);
        faults(2, "\r\n~,", "\r\n~a\r\n", "\r\n\r~a", "\r\n~\n", Subject.times("\r\n", 25) + "~\r\n", Subject.times("\r\n", 25) + "~x",
            "x\r\n" + Subject.times("\r\n", 24) + "~\r\n", "x\r\n" + Subject.times("a\r\n", 24) + "~\"");
    }

    private static void tabHead() {
        faults(3, "~", "~x", "~\r\n", "~\t", "?~", "?~\n", "?~X", "?x~", "?x~\r\n", "?x~,?y", "?x~ ", "?x\t~", "?x\t~y", "?x\t~\n", "?x\t?~x\n",
            "?~abcdefghi\n", "?a\t?b\t?c\t?d\t?e\t?f\t?~g\n", "?a\t?b\t?c\t?d\t?e\t?f\t~\n");
    }

    private static void tabRows() {
        String a20 = Subject.times("a", 20);
        String[] rows = {"\t~", "~a", "~ ", "~\n", "~,", "<a>~", "<a>~\n", "<a>~ ", "<a>~<", "<a>\t~", "<a>\t~a", "<a>\t~ \n",
            "<a>\t<b>~\t", "<a>\t<b>~\r\n", "<~", "<~>", "<~a b>", "<a b~", "<~a\\>", "<~a\\/>", "<~a<>", "<~a\">", "<a~\u0001>", "<a~\u0080>",
            "<" + a20 + "~a>", "<" + a20 + "~", "<" + Subject.times(" ", 20) + "~a>", "<~" + Subject.times(" ", 20) + ">",
            "_~", "_~a", "_:~", "_:~\t", "_:~A", "_:a~A", "_:~abcdefghi\t", "_:abcdefgh~-",
            "\"~", "\"a~", "\"a~\t\"", "\"a~\n\"", "\"a~\r\"", "\"a~\\q\"", "\"a~\\/\"", "\"a~\\", "\"a~\u0000\"", "\"a~\u0080\"",
            "\"" + a20 + "~a\"", "\"" + a20 + "~\\n\"", "\"" + a20 + "~\\q\"", "\"" + a20 + "~", "\"" + a20 + "\"~a",
            "\"a\"~", "\"a\"~a", "\"a\"~\"", "\"a\"@~", "\"a\"@~\t", "\"a\"@~e\t", "\"a\"@~eng\t", "\"a\"@~EN\t", "\"a\"@en~-", "\"a\"@en~^^date",
            "\"a\"^~", "\"a\"^~date", "\"a\"^^~", "\"a\"^^~int\t", "\"a\"^^~dates\t", "\"a\"^^~dat\t", "\"a\"^^date~1", "\"a\"^^date~@en", "<a>~@en"};
        for (String row : rows) faults(3, "?x\t?y\n" + row);
        faults(3, "\n~\t", "\n~<a>", Subject.times("\n", 25) + "~\n", Subject.times("\n", 25) + "~x", "?x\n" + Subject.times("\n", 24) + "~_");
    }

    private static void hearing(int form, String... tapes) {
        for (String marked : tapes) {
            Subject s = new Subject();
            int place = marked.indexOf('~');
            Subject.due("hear(" + form + ") of " + Subject.shown(marked), s.hear(form, marked.replace("~", "")), -10 - place);
            Subject.due("the tape", s.x.count(3), 0);
        }
    }

    private static void truths() {
        hearing(0, "~", "~[", "{~}", "{\"head\":{~\"vars\":[]}", "{\"head\":{}~}", "{\"head\":{},\"~results\"", "{\"head\":{},\"boolean\"~,",
            "{\"head\":{},\"boolean\":~", "{\"head\":{},\"boolean\":~\"true\"}", "{\"head\":{},\"boolean\":~1}", "{\"head\":{},\"boolean\":~True}",
            "{\"head\":{},\"boolean\":t~", "{\"head\":{},\"boolean\":tr~e}", "{\"head\":{},\"boolean\":f~rue}", "{\"head\":{},\"boolean\":true~e}",
            "{\"head\":{},\"boolean\":false ~,", "{\"head\":{},\"boolean\":true}~}", "{\"head\":{},\"boolean\":true} \t\n\r~x",
            "{\"head\":{},\"boolean\":true~");
        hearing(1, "~", "~ <sparql>", "<sparql><head><~variable name=\"x\"/>", "<sparql><head></head>~ ",
            "<sparql><head></head><~results>", "<sparql><head></head><boolean>~", "<sparql><head></head><boolean>~ true",
            "<sparql><head></head><boolean>~<", "<sparql><head></head><boolean>tru~<", "<sparql><head></head><boolean>true~ <",
            "<sparql><head></head><boolean>false</~x", "<sparql><head></head><boolean>true</boolean></sparql>~\n",
            "<sparql><head></head><boolean>true</boolean>~");
    }

    /**
     * Forms 0 and 1 tell their end, so every beginning of a tape faults where it ends, or at the word that was cut.
     * One object reads them all, the longest first, so that what stood on its tape before would fit behind each.
     */
    private static void cutTapes() {
        String json = HEAD0 + "{\"x\":{\"type\":\"uri\",\"value\":\"a\"}}]}}";
        String xml = HEAD1 + "<binding name=\"x\"><uri>a&amp;</uri></binding></result></results></sparql>";
        for (int form = 0; form <= 1; form++) {
            String whole = form == 0 ? json : xml;
            String word = form == 0 ? "uri" : "&amp;";
            int from = whole.indexOf(word);
            Subject s = new Subject();
            for (int n = whole.length(); n >= 0; n--) {
                boolean isCut = n > from && n < from + word.length();
                int want = n == whole.length() ? 1 : -10 - (isCut ? from : n);
                Subject.due("form " + form + " cut at " + n, s.read(form, whole.substring(0, n)), want);
            }
        }
        cutLines(2, "x,y\r\n\"a\"\"\",_:ab\r\n", 5);
        cutLines(3, "?x\t?y\n\"a\\n\"@en\t_:ab\n", 6);
    }

    /** The lines of forms 2 and 3 tell no end, but one that is begun must end. */
    private static void cutLines(int form, String whole, int head) {
        Subject s = new Subject();
        Subject.due("form " + form, s.read(form, whole), 1);
        for (int n = whole.length() - 1; n >= 0; n--) {
            String tape = whole.substring(0, n);
            int answer = s.read(form, tape);
            if (n == head) {
                Subject.due("form " + form + " cut behind its head", answer, 0);
            } else if (tape.endsWith("\\") || tape.endsWith("@e")) {
                Subject.due("form " + form + " cut at " + n, answer, -10 - (n - 1));
            } else {
                Subject.due("form " + form + " cut at " + n, answer, -10 - n);
            }
        }
    }
}
