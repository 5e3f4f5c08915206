import java.io.IOException;
import java.lang.reflect.Method;
import java.lang.reflect.Modifier;
import java.lang.reflect.Parameter;
import java.nio.file.Files;
import java.nio.file.Path;
import java.util.ArrayList;
import java.util.Iterator;
import java.util.LinkedHashSet;
import java.util.List;
import java.util.Map;
import java.util.Set;
import java.util.TreeMap;
import java.util.TreeSet;
import java.util.function.IntSupplier;
import java.util.regex.Matcher;
import java.util.regex.Pattern;
import java.util.stream.Stream;

/** README.md: what it tells of the class is what the class answers. All answers that are due are taken from its text. */
final class ReadmeTest {
    private static final int BAD = ResultForms.BAD;
    private static final int NO = ResultForms.NO;
    private static final int FULL = ResultForms.FULL;
    private static final String FAULT = "-10 less the place";

    private static List<String> readme;

    public static void main(String[] args) throws IOException {
        readme = Files.readAllLines(Path.of("README.md"));
        example();
        textsOfTheForms();
        form2IsReadAsPlain();
        allCallsAreTold();
        refusals();
        constants();
        kinds();
        nodes();
        types();
        limits();
        allTestsAreTold();
        Subject.end();
    }

    // The parts of README.md

    /** The lines of each block that is fenced as this language. */
    private static List<List<String>> blocks(String language) {
        List<List<String>> blocks = new ArrayList<>();
        List<String> open = null;
        for (String line : readme) {
            if (open == null && line.equals("```" + language)) {
                open = new ArrayList<>();
                blocks.add(open);
            } else if (line.equals("```")) {
                open = null;
            } else if (open != null) {
                open.add(line);
            }
        }
        return blocks;
    }

    /** The cells of each row of the table whose first line begins so. */
    private static List<String[]> table(String head) {
        List<String[]> rows = new ArrayList<>();
        int at = 0;
        while (at < readme.size() && !readme.get(at).startsWith("| " + head + " |")) at++;
        for (int i = at + 2; i < readme.size() && readme.get(i).startsWith("|"); i++) {
            String[] cells = readme.get(i).substring(1).split("\\|");
            for (int k = 0; k < cells.length; k++) cells[k] = cells[k].trim();
            rows.add(cells);
        }
        Subject.due("README.md has a table of each " + head, rows.isEmpty() ? 0 : 1, 1);
        return rows;
    }

    private static boolean tells(String words) {
        return String.join(" ", readme).contains(words);
    }

    // The example

    private static Iterator<String> lines;

    private static String nextLine() {
        String line = "";
        while (line.isEmpty() && lines.hasNext()) line = lines.next().trim();
        return line;
    }

    /** The next line of the example is this call, and tells this answer. */
    private static void answers(String call, int got) {
        Matcher m = Pattern.compile("(.*;) +// (-?\\d+)(:.*)?").matcher(nextLine());
        boolean isCall = m.matches();
        Subject.due("a line of the example", isCall ? m.group(1) : "no call with its answer", call + ";");
        if (isCall) Subject.due(call + " in the example", got, Integer.parseInt(m.group(2)));
    }

    private static void stands(String statement) {
        Subject.due("a line of the example", nextLine(), statement);
    }

    private static void example() {
        Subject.due("examples in README.md", blocks("java").size(), 1);
        lines = blocks("java").get(0).iterator();
        stands("ResultForms x = new ResultForms();");
        Subject s = new Subject();
        makesTheTable(s.x);
        writesIt(s);
        comparesIt(s.x);
        hearsAndFails(s.x);
        Subject.due("what is left of the example", nextLine(), "");
    }

    private static void makesTheTable(ResultForms x) {
        answers("x.type('x', 1)", x.type('x', 1));
        answers("x.variable()", x.variable());
        answers("x.type('y', 1)", x.type('y', 1));
        answers("x.variable()", x.variable());
        answers("x.type(0x6162, 2)", x.type(0x6162, 2));
        answers("x.term(2, 0)", x.term(2, 0));
        answers("x.type(0x6869, 2)", x.type(0x6869, 2));
        answers("x.term(3, 26 * 4 + 13)", x.term(3, 26 * 4 + 13));
        answers("x.row()", x.row());
        answers("x.put(0, 0, 0)", x.put(0, 0, 0));
        answers("x.put(0, 1, 1)", x.put(0, 1, 1));
        answers("x.put(0, 1, 1)", x.put(0, 1, 1));
        answers("x.row()", x.row());
        answers("x.put(1, 0, 1)", x.put(1, 0, 1));
        answers("x.value(1, 0)", x.value(1, 0));
        answers("x.value(1, 1)", x.value(1, 1));
        answers("x.of(1, 0)", x.of(1, 0));
        answers("x.of(1, 3)", x.of(1, 3));
    }

    private static void writesIt(Subject s) {
        ResultForms x = s.x;
        answers("x.write(3)", x.write(3));
        answers("x.at(0)", x.at(0));
        stands("for (int i = 0; i < x.count(4); i++) System.out.print((char) x.at(i));");
        Subject.due("what the example prints", s.out(), toldText(3));
        answers("x.keep()", x.keep());
        answers("x.clear()", x.clear());
        answers("x.pass()", x.pass());
        answers("x.read(3)", x.read(3));
        answers("x.same(true)", x.same(true));
    }

    private static void comparesIt(ResultForms x) {
        answers("x.row()", x.row());
        answers("x.row()", x.row());
        answers("x.same(false)", x.same(false));
        answers("x.lacks(0)", x.lacks(0));
        answers("x.lacks(1)", x.lacks(1));
        answers("x.lacks(2)", x.lacks(2));
        answers("x.distinct()", x.distinct());
    }

    private static void hearsAndFails(ResultForms x) {
        answers("x.say(0, true)", x.say(0, true));
        answers("x.pass()", x.pass());
        answers("x.hear(0)", x.hear(0));
        answers("x.type('?', 1)", x.type('?', 1));
        answers("x.read(3)", x.read(3));
        answers("x.count(1)", x.count(1));
        answers("x.read(4)", x.read(4));
    }

    // The texts in four forms

    /** The example's table in a form, as README.md shows it. */
    private static String toldText(int form) {
        String lineEnd = form == 2 ? "\r\n" : form == 3 ? "\n" : "";
        StringBuilder s = new StringBuilder();
        List<List<String>> texts = blocks("text");
        if (form < texts.size()) for (String line : texts.get(form)) s.append(line).append(lineEnd);
        return s.toString();
    }

    private static Subject exampleTable() {
        Subject s = new Subject();
        s.variable("x");
        s.variable("y");
        s.term(2, 0, "ab");
        s.term(3, 117, "hi");
        s.row(0, 1);
        s.row(1, -1);
        s.x.keep();
        return s;
    }

    private static void textsOfTheForms() {
        Subject.due("texts in README.md", blocks("text").size(), 4);
        for (int form = 0; form < 4; form++) {
            Subject s = exampleTable();
            Subject.due("the example in form " + form, s.written(form), toldText(form));
            s.x.clear();
            Subject.due("rows read back in form " + form, s.read(form, toldText(form)), 2);
            Subject.due("the example read back in form " + form, s.x.same(true), form == 2 ? 0 : 1);
        }
    }

    private static void form2IsReadAsPlain() {
        Subject.due("what is told of form 2", tells("it does not tell kinds 0, 2, 3 and 4 apart, so that all of them are read back as kind 2") ? 1 : 0, 1);
        for (int kind : new int[] {0, 2, 3, 4}) {
            for (String text : new String[] {"a", "_:a", "a,b"}) {
                Subject s = new Subject();
                s.variable("x");
                s.row(s.term(kind, 0, text));
                s.read(2, s.written(2));
                Subject.due("kind " + kind + " in form 2", s.toldTable(), "1 variables | 2/0/" + text);
            }
        }
    }

    // The table of calls

    private static void allCallsAreTold() {
        Set<String> face = new TreeSet<>();
        for (Method m : ResultForms.class.getDeclaredMethods()) {
            if (Modifier.isPublic(m.getModifiers())) face.add(m.getName() + types(m));
        }
        Set<String> told = new TreeSet<>();
        for (String[] row : table("call")) told.add(row[0].replaceAll("`", "").replaceAll("(\\w+) \\w+(?=[,)])", "$1"));
        Subject.due("the calls that README.md tells", told.toString(), face.toString());
    }

    private static String types(Method m) {
        List<String> types = new ArrayList<>();
        for (Parameter p : m.getParameters()) types.add(p.getType().toString());
        return "(" + String.join(", ", types) + ")";
    }

    /** By a call's name, the words that it was seen to refuse with. */
    private static final Map<String, Set<String>> REFUSED = new TreeMap<>();

    private static void refuses(String call, int answer, IntSupplier made) {
        String word = answer == BAD ? "`BAD`" : answer == NO ? "`NO`" : answer == FULL ? "`FULL`" : FAULT;
        REFUSED.computeIfAbsent(call, c -> new TreeSet<>()).add(word);
        Subject.due(call + ", which refuses with " + word, made.getAsInt(), answer);
    }

    private static void refusals() {
        bytesRefused();
        termsRefused();
        tablesRefused();
        formsRefused();
        comparisonsRefused();
        for (String[] row : table("call")) {
            String name = row[0].substring(1, row[0].indexOf('('));
            Set<String> told = new TreeSet<>();
            Matcher m = Pattern.compile("`BAD`|`NO`|`FULL`|" + FAULT).matcher(row.length > 2 ? row[2] : "");
            while (m.find()) told.add(m.group());
            Subject.due("refusals of " + name, REFUSED.getOrDefault(name, Set.of()).toString(), told.toString());
        }
    }

    private static void bytesRefused() {
        Subject s = new Subject();
        refuses("type", BAD, () -> s.x.type(0, 0));
        refuses("type", BAD, () -> s.x.type(0, 9));
        refuses("at", BAD, () -> s.x.at(0));
        refuses("count", BAD, () -> s.x.count(5));
        for (int i = 0; i < 375; i++) s.x.type(0, 8);
        refuses("type", FULL, () -> s.x.type(0, 1));
        s.x.write(3);
        refuses("pass", FULL, s.x::pass);
    }

    private static void termsRefused() {
        Subject s = new Subject();
        refuses("term", BAD, () -> s.term(5, 0, "a"));
        refuses("term", BAD, () -> s.term(3, 676, "a"));
        refuses("term", BAD, () -> s.term(4, 4, "a"));
        refuses("term", BAD, () -> s.term(0, 0, "a b"));
        refuses("of", BAD, () -> s.x.of(0, 0));
        for (int i = 0; i < 60; i++) s.term(3, i, "a");
        refuses("term", FULL, () -> s.term(3, 60, "a"));
        Subject.due("one that there is", s.term(3, 59, "a"), 59);
        refuses("of", BAD, () -> s.x.of(59, 4));
    }

    private static void tablesRefused() {
        Subject s = new Subject();
        refuses("variable", BAD, () -> s.variable("X"));
        for (char c = 'a'; c < 'g'; c++) s.variable(String.valueOf(c));
        refuses("variable", BAD, () -> s.variable("a"));
        refuses("variable", FULL, () -> s.variable("g"));
        refuses("value", NO, () -> s.x.value(0, 0));
        refuses("put", BAD, () -> s.x.put(0, 0, -1));
        s.x.row();
        refuses("variable", NO, () -> s.variable("g"));
        refuses("value", NO, () -> s.x.value(0, 6));
        refuses("put", BAD, () -> s.x.put(0, 6, -1));
        refuses("put", BAD, () -> s.x.put(0, 0, 0));
        for (int i = 1; i < 24; i++) s.x.row();
        refuses("row", FULL, s.x::row);
        s.term(2, 0, "a");
        Subject.due("clear", s.x.clear(), 24);
        Subject.due("the terms stay", s.x.count(2), 1);
    }

    private static void formsRefused() {
        Subject s = new Filled(1, 3001).s;
        refuses("write", BAD, () -> s.x.write(4));
        s.x.say(0, true);
        refuses("write", FULL, () -> s.x.write(1));
        refuses("say", BAD, () -> s.x.say(2, true));
        Subject.due("the out stays", s.out(), "{\"head\":{},\"boolean\":true}");
        refuses("read", BAD, () -> s.read(4, "x\r\n"));
        refuses("read", -12, () -> s.read(2, "x,\r\n"));
        refuses("hear", BAD, () -> s.hear(2, "true"));
        refuses("hear", -10, () -> s.hear(0, "true"));
        Subject full = new Subject();
        for (int i = 0; i < 60; i++) full.term(3, i, "a");
        refuses("read", FULL, () -> full.read(2, "x\r\na\r\n"));
        Subject.due("the table stays", full.toldTable(), "0 variables");
        Subject.due("the terms stay", full.x.count(2), 60);
    }

    private static void comparisonsRefused() {
        Subject s = new Subject();
        refuses("same", NO, () -> s.x.same(true));
        refuses("lacks", NO, () -> s.x.lacks(0));
        s.x.keep();
        refuses("lacks", NO, () -> s.x.lacks(0));
    }

    private static void constants() {
        String words = "`BAD` is " + BAD + ", `NO` is " + NO + ", `FULL` is " + FULL + ".";
        Subject.due("README.md tells: " + words, tells(words) ? 1 : 0, 1);
    }

    // Kinds and limits

    /** Each kind with the least text that README.md allows it. */
    private static void kinds() {
        Subject.due("kinds", table("kind").size(), 5);
        for (String[] row : table("kind")) {
            int kind = row[0].charAt(0) - '0';
            boolean mayBeEmpty = row[1].equals("any");
            Subject s = new Subject();
            Subject.due("an empty text of kind " + kind, s.term(kind, 0, ""), mayBeEmpty ? 0 : BAD);
            Subject.due("a text of kind " + kind, s.term(kind, 0, "a1"), mayBeEmpty ? 1 : 0);
            Subject.due("its kind", s.x.of(mayBeEmpty ? 1 : 0, 0), kind);
            Subject.due("extra 1 of kind " + kind, s.term(kind, 1, "a1") == BAD ? 1 : 0, row[2].equals("0") ? 1 : 0);
            Subject.due("a space in kind " + kind, s.term(kind, 0, " ") == BAD ? 0 : 1, mayBeEmpty ? 1 : 0);
        }
        Subject s = new Subject();
        Subject.due("a blank of 8", s.term(1, 0, "abcdefg8"), 0);
        Subject.due("a blank of 9", s.term(1, 0, "abcdefgh9"), BAD);
    }

    private static void nodes() {
        Matcher m = Pattern.compile("that of a node none of `` (.*?) ``").matcher(String.join(" ", readme));
        Subject.due("the bytes that no node has are told", m.find() ? 1 : 0, 1);
        Set<String> told = new LinkedHashSet<>(List.of(m.group(1).split(" ")));
        for (char c = 33; c <= 126; c++) {
            Subject.due("a node of " + c, new Subject().term(0, 0, String.valueOf(c)), told.contains(String.valueOf(c)) ? BAD : 0);
        }
    }

    private static void types() {
        Matcher m = Pattern.compile("(\\d) (\\w+)").matcher(table("kind").get(4)[2]);
        int types = 0;
        while (m.find()) {
            Subject s = new Subject();
            s.variable("x");
            s.row(s.term(4, Integer.parseInt(m.group(1)), "a"));
            Subject.due("type " + m.group(1), s.written(3), "?x\n\"a\"^^" + m.group(2) + "\n");
            types++;
        }
        Subject.due("types", types, 4);
    }

    private static void limits() {
        Subject.due("limits", table("what").size(), 8);
        for (String[] row : table("what")) {
            int most = Integer.parseInt(row[1]);
            Subject.due(row[0] + ": " + most, mayBe(row[0], most) ? 1 : 0, 1);
            Subject.due(row[0] + ": one more", mayBe(row[0], most + 1) ? 1 : 0, 0);
        }
    }

    /** Whether so many of this are taken. */
    private static boolean mayBe(String what, int n) {
        Subject s = new Subject();
        int last = BAD;
        switch (what) {
            case "bytes on the tape": return s.tape(Subject.times("a", n)) == n;
            case "bytes in the out": return new Filled(2, n).s.x.write(2) == n;
            case "bytes of a text": return s.term(2, 0, Subject.times("a", n)) == 0;
            case "letters of a name": return s.variable(Subject.times("a", n)) == 0;
            case "terms":
                for (int i = 0; i < n; i++) last = s.term(3, i, "");
                return last == n - 1;
            case "variables":
                for (int i = 0; i < n; i++) last = s.variable(Subject.times("a", i + 1));
                return last == n - 1;
            case "rows":
                for (int i = 0; i < n; i++) last = s.x.row();
                return last == n - 1;
            case "calls of one object":
                // what later calls answer is free, so the document's number is what holds here
                for (int i = 0; i < n; i++) last = s.x.type('a', 1);
                return last == n && n <= 512;
            default: return false;
        }
    }

    // The table of tests

    private static void allTestsAreTold() throws IOException {
        Set<String> told = new TreeSet<>();
        for (String[] row : table("test")) told.add(row[0]);
        Set<String> files = new TreeSet<>();
        try (Stream<Path> paths = Files.list(Path.of("src/test/java"))) {
            paths.map(p -> p.getFileName().toString()).filter(f -> f.endsWith("Test.java"))
                .forEach(f -> files.add("`" + f.replace(".java", "") + "`"));
        }
        Subject.due("the tests that README.md tells", told.toString(), files.toString());
    }
}
