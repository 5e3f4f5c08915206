import java.util.Random;

/** Promises 11 and 14 together, over tables made by chance (always the same ones): what is written is read back. */
final class RoundTripTest {
    private static final String BYTES = "\t\n\r !\"#&',/09:;<>?@AZ[\\]^_`az{|}~";
    private static final String NODE_BYTES = "!#&',/09:;?@AZ[]_az~";
    private static final Random CHANCE = new Random(7);

    public static void main(String[] args) {
        for (int i = 0; i < 400; i++) {
            readsBack();
            spoiled();
        }
        Subject.end();
    }

    private static String text(String from, int least, int most) {
        StringBuilder s = new StringBuilder();
        int n = least + CHANCE.nextInt(most - least + 1);
        for (int i = 0; i < n; i++) s.append(from.charAt(CHANCE.nextInt(from.length())));
        return s.toString();
    }

    private static int anyTerm(Subject s) {
        switch (CHANCE.nextInt(6)) {
            case 0: return s.term(0, 0, (CHANCE.nextInt(4) == 0 ? "_:" : "") + text(NODE_BYTES, 1, 6));
            case 1: return s.term(1, 0, text("az09", 1, 8));
            case 2: return s.term(2, 0, (CHANCE.nextInt(4) == 0 ? "_:" : "") + text(BYTES, 0, 18));
            case 3: return s.term(3, CHANCE.nextInt(676), text(BYTES, 0, 20));
            case 4: return s.term(4, CHANCE.nextInt(4), text(BYTES, 0, 4));
            default: return -1;
        }
    }

    private static Subject anyTable() {
        Subject s = new Subject();
        int variables = CHANCE.nextInt(7);
        for (int v = 0; v < variables; v++) s.variable(text("abz", 0, 4) + (char) ('c' + v));
        int rows = CHANCE.nextInt(8);
        for (int r = 0; r < rows; r++) {
            s.x.row();
            for (int v = 0; v < variables; v++) s.x.put(r, v, anyTerm(s));
        }
        return s;
    }

    private static void readsBack() {
        Subject s = anyTable();
        s.x.keep();
        int rows = s.x.count(1);
        int terms = s.x.count(2);
        for (int form : new int[] {0, 1, 3, 2}) {
            if (s.x.write(form) == ResultForms.FULL) continue;
            String out = s.out();
            s.x.clear();
            s.x.pass();
            Subject.due("rows read in form " + form, s.x.read(form), rows);
            if (form == 2) {
                plainOnly(s, out);
            } else {
                Subject.due("form " + form + " gives the same", s.x.same(true), 1);
                Subject.due("and no term more", s.x.count(2), terms);
            }
        }
    }

    /** Form 2 does not tell kinds, but what is read of it is written the same again. */
    private static void plainOnly(Subject s, String out) {
        Subject.due("form 2 again", s.written(2), out);
        for (int r = 0; r < s.x.count(1); r++) {
            for (int v = 0; v < s.x.count(0); v++) {
                int t = s.x.value(r, v);
                Subject.due("kinds of form 2", t == -1 || s.x.of(t, 0) == 1 || s.x.of(t, 0) == 2 ? 1 : 0, 1);
            }
        }
    }

    /** A byte that stands nowhere faults at its place, or earlier where a word begins that it cuts. */
    private static void spoiled() {
        Subject s = anyTable();
        int form = CHANCE.nextInt(4);
        if (s.x.write(form) == ResultForms.FULL) return;
        String out = s.out();
        int place = CHANCE.nextInt(out.length() + 1);
        String tape = out.substring(0, place) + '\u0001' + out.substring(place);
        if (tape.length() > 3000) return;
        String table = s.toldTable();
        int terms = s.x.count(2);
        int answer = s.read(form, tape);
        int told = -10 - answer;
        Subject.due("a fault is told at " + place + " or before, not at " + told, told >= 0 && told <= place ? 1 : 0, 1);
        Subject.due("nothing but a word is cut", told == place || place - told <= 8 ? 1 : 0, 1);
        Subject.due("the table stays", s.toldTable(), table);
        Subject.due("terms stay", s.x.count(2), terms);
    }
}
