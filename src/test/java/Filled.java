import java.util.Arrays;

/** A table of six variables and 24 rows that is of just so many bytes in a form, and the text that is due there. */
final class Filled {
    private static final int CELLS = 24 * 6;

    final Subject s = new Subject();
    final String text;

    Filled(int form, int bytes) {
        int[] lengths = lengths(form, bytes);
        text = text(form, lengths);
        for (char c = 'a'; c <= 'f'; c++) s.variable(String.valueOf(c));
        for (int r = 0; r < 24; r++) s.x.row();
        int[] terms = new int[21];
        Arrays.fill(terms, -1);
        for (int i = 0; i < CELLS; i++) {
            int n = lengths[i];
            if (n < 0) continue;
            if (terms[n] < 0) terms[n] = s.term(2, 0, Subject.times("q", n));
            s.x.put(i / 6, i % 6, terms[n]);
        }
    }

    /** How long the plain text of each cell is (-1 for none), so that the whole comes to this. */
    private static int[] lengths(int form, int bytes) {
        int[] lengths = new int[CELLS];
        Arrays.fill(lengths, -1);
        int cells = 0;
        while (text(form, lengths).length() < bytes) lengths[cells++] = 20;
        int cut = text(form, lengths).length() - bytes;
        for (int i = 0; cut > 0; i++) {
            int less = Math.min(19, cut);
            lengths[i] -= less;
            cut -= less;
        }
        return lengths;
    }

    private static String text(int form, int[] lengths) {
        StringBuilder rows = new StringBuilder();
        for (int r = 0; r < 24; r++) rows.append(form == 0 && r > 0 ? "," : "").append(row(form, r, lengths));
        switch (form) {
            case 0: return "{\"head\":{\"vars\":[\"a\",\"b\",\"c\",\"d\",\"e\",\"f\"]},\"results\":{\"bindings\":[" + rows + "]}}";
            case 1: return "<sparql><head><variable name=\"a\"/><variable name=\"b\"/><variable name=\"c\"/><variable name=\"d\"/>"
                + "<variable name=\"e\"/><variable name=\"f\"/></head><results>" + rows + "</results></sparql>";
            case 2: return "a,b,c,d,e,f\r\n" + rows;
            default: return "?a\t?b\t?c\t?d\t?e\t?f\n" + rows;
        }
    }

    private static String row(int form, int r, int[] lengths) {
        StringBuilder s = new StringBuilder();
        for (int v = 0; v < 6; v++) {
            int n = lengths[r * 6 + v];
            char name = (char) ('a' + v);
            String text = Subject.times("q", Math.max(0, n));
            if (form == 2) s.append(v > 0 ? "," : "").append(text);
            if (form == 3) s.append(v > 0 ? "\t" : "").append(n < 0 ? "" : "\"" + text + "\"");
            if (n < 0) continue;
            if (form == 0) s.append(s.length() > 0 ? "," : "").append("\"" + name + "\":{\"type\":\"literal\",\"value\":\"" + text + "\"}");
            if (form == 1) s.append("<binding name=\"" + name + "\"><literal>" + text + "</literal></binding>");
        }
        switch (form) {
            case 0: return "{" + s + "}";
            case 1: return "<result>" + s + "</result>";
            case 2: return s + "\r\n";
            default: return s + "\n";
        }
    }
}
