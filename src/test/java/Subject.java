import java.nio.charset.StandardCharsets;
import java.util.function.IntSupplier;

/** A ResultForms under test: types texts, gives back the out, and notes every answer that is not due. */
final class Subject {
    private static int wrong = 0;
    private static int looked = 0;
    private static String sentence = "";

    final ResultForms x = new ResultForms();

    /** The document's sentence against which the answers from here on are held. */
    static void sentence(String words) {
        sentence = words;
    }

    static void due(String what, long got, long want) {
        looked++;
        if (got != want) tell(what + " answered " + got + ", due is " + want);
    }

    static void due(String what, String got, String want) {
        looked++;
        if (!got.equals(want)) tell(what + " is " + shown(got) + ", due is " + shown(want));
    }

    private static void tell(String fault) {
        wrong++;
        System.out.println(fault + (sentence.isEmpty() ? "" : " (the document: " + sentence + ")"));
    }

    /** The end of each test's main. */
    static void end() {
        System.out.println(looked + " answers, " + wrong + " of them not as due");
        if (wrong != 0 || looked == 0) System.exit(1);
    }

    static String shown(String s) {
        return s.replace("\t", "[9]").replace("\n", "[10]").replace("\r", "[13]");
    }

    static String times(String s, int n) {
        return s.repeat(n);
    }

    /** Types a text behind the tape: the last answer. */
    int tape(String s) {
        byte[] bytes = s.getBytes(StandardCharsets.ISO_8859_1);
        int answer = x.count(3);
        for (int i = 0; i < bytes.length; i += 8) {
            int n = Math.min(8, bytes.length - i);
            long packed = 0;
            for (int k = 0; k < n; k++) packed = packed << 8 | bytes[i + k] & 255;
            answer = x.type(packed, n);
        }
        return answer;
    }

    int term(int kind, int extra, String text) {
        tape(text);
        return x.term(kind, extra);
    }

    int variable(String name) {
        tape(name);
        return x.variable();
    }

    int read(int form, String s) {
        tape(s);
        return x.read(form);
    }

    int hear(int form, String s) {
        tape(s);
        return x.hear(form);
    }

    /** A row more, with these terms. */
    int row(int... terms) {
        int r = x.row();
        for (int v = 0; v < terms.length; v++) x.put(r, v, terms[v]);
        return r;
    }

    String out() {
        StringBuilder s = new StringBuilder();
        for (int i = 0; i < x.count(4); i++) s.append((char) x.at(i));
        return s.toString();
    }

    String written(int form) {
        int n = x.write(form);
        due("write(" + form + ")", n, x.count(4));
        return out();
    }

    /** A term told whole: its kind, tag or type, and text. */
    String told(int term) {
        if (term < 0) return "none";
        StringBuilder s = new StringBuilder();
        s.append(x.of(term, 0)).append('/').append(x.of(term, 1)).append('/');
        for (int i = 0; i < x.of(term, 2); i++) s.append((char) x.of(term, 3 + i));
        return s.toString();
    }

    String toldCell(int row, int variable) {
        int t = x.value(row, variable);
        return t == ResultForms.NO ? "no cell" : told(t);
    }

    /** The whole table by rows of told terms, whatever form it came from. */
    String toldTable() {
        StringBuilder s = new StringBuilder();
        s.append(x.count(0)).append(" variables");
        for (int r = 0; r < x.count(1); r++) {
            s.append(" |");
            for (int v = 0; v < x.count(0); v++) s.append(' ').append(toldCell(r, v));
        }
        return s.toString();
    }

    /** All that calls can tell of an object but for its tape; names, too, when the table is the kept one. */
    String state() {
        StringBuilder s = new StringBuilder();
        for (int t = 0; t < x.count(2); t++) s.append(told(t)).append(' ');
        return s.append("| ").append(toldTable()).append(" | ").append(x.same(true)).append(" | ").append(out()).toString();
    }

    /** A call that is refused: it changes nothing, not the tape either. */
    void refused(String what, int want, IntSupplier call) {
        String before = state();
        int tapeBefore = x.count(3);
        due(what, call.getAsInt(), want);
        due("the tape behind " + what, x.count(3), tapeBefore);
        due("the rest behind " + what, state(), before);
    }

    /** A call that takes the tape and is refused: the tape is empty then, and nothing else has changed. */
    void refusedTaking(String what, int want, String tape, IntSupplier call) {
        String before = state();
        tape(tape);
        due(what, call.getAsInt(), want);
        due("the tape behind " + what, x.count(3), 0);
        due("the rest behind " + what, state(), before);
    }
}
