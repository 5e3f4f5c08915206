/** Promises 6 to 10: variable, row, put, clear, value. */
final class TableTest {
    public static void main(String[] args) {
        names();
        variablesUntilFull();
        rows();
        cells();
        clears();
        Subject.end();
    }

    private static void names() {
        String[] wrong = {"", "abcdefghi", "X", "a1", "a b", "_", "aZ", "a\n", "\u00e9", "a{", "`"};
        Subject s = new Subject();
        for (String name : wrong) {
            Subject.due("variable " + name, s.variable(name), ResultForms.BAD);
            Subject.due("tape behind " + name, s.x.count(3), 0);
        }
        Subject.due("variable a", s.variable("a"), 0);
        Subject.due("variable abcdefgh", s.variable("abcdefgh"), 1);
        Subject.due("variable ab", s.variable("ab"), 2);
        Subject.due("variable az", s.variable("az"), 3);
        Subject.due("variable a again", s.variable("a"), ResultForms.BAD);
        Subject.due("variable az again", s.variable("az"), ResultForms.BAD);
        for (String name : wrong) Subject.due("variable " + name + " behind others", s.variable(name), ResultForms.BAD);
        Subject.due("variables", s.x.count(0), 4);
        s.x.row();
        Subject.due("a new one when there is a row", s.variable("z"), ResultForms.NO);
        Subject.due("tape behind it", s.x.count(3), 0);
        for (String name : wrong) Subject.due("variable " + name + " when there is a row", s.variable(name), ResultForms.BAD);
        Subject.due("a known one when there is a row", s.variable("a"), ResultForms.BAD);
        Subject.due("variables", s.x.count(0), 4);
        Subject.due("names as written", s.written(2), "a,abcdefgh,ab,az\r\n,,,\r\n");
    }

    private static void variablesUntilFull() {
        Subject s = new Subject();
        for (int i = 0; i < 6; i++) Subject.due("variable " + i, s.variable(Subject.times("a", i + 1)), i);
        Subject.due("a seventh", s.variable("b"), ResultForms.FULL);
        Subject.due("tape behind it", s.x.count(3), 0);
        Subject.due("a seventh that is no name", s.variable("B"), ResultForms.BAD);
        Subject.due("a seventh that is there", s.variable("a"), ResultForms.BAD);
        s.x.row();
        Subject.due("a seventh when there is a row", s.variable("b"), ResultForms.NO);
        Subject.due("variables", s.x.count(0), 6);
    }

    private static void rows() {
        Subject s = new Subject();
        for (int i = 0; i < 24; i++) Subject.due("row " + i, s.x.row(), i);
        Subject.due("a 25th", s.x.row(), ResultForms.FULL);
        Subject.due("rows", s.x.count(1), 24);
        Subject.due("value without variables", s.x.value(0, 0), ResultForms.NO);
        Subject.due("put without variables", s.x.put(0, 0, -1), ResultForms.BAD);
    }

    private static void cells() {
        Subject s = new Subject();
        for (int v = 0; v < 6; v++) s.variable("v" + (char) ('a' + v));
        for (int i = 0; i < 60; i++) s.term(2, 0, "t" + i);
        for (int r = 0; r < 24; r++) s.x.row();
        for (int r = 0; r < 24; r++) {
            for (int v = 0; v < 6; v++) {
                Subject.due("a new cell", s.x.value(r, v), -1);
                Subject.due("none put in a new cell", s.x.put(r, v, -1), 0);
            }
        }
        for (int r = 0; r < 24; r++) {
            for (int v = 0; v < 6; v++) Subject.due("put", s.x.put(r, v, (r * 6 + v) % 60), 1);
        }
        s.x.put(3, 2, 7);
        Subject.due("put again", s.x.put(3, 2, 7), 0);
        Subject.due("put none", s.x.put(3, 2, -1), 1);
        Subject.due("put none again", s.x.put(3, 2, -1), 0);
        Subject.due("value none", s.x.value(3, 2), -1);
        Subject.due("value beside it", s.x.value(3, 3), 21);
        Subject.due("value of the last", s.x.value(23, 5), 143 % 60);
        int[][] noCell = {{24, 0}, {-1, 0}, {0, 6}, {0, -1}, {Integer.MAX_VALUE, Integer.MAX_VALUE},
            {Integer.MIN_VALUE, Integer.MIN_VALUE}};
        for (int[] c : noCell) {
            Subject.due("value out of the table", s.x.value(c[0], c[1]), ResultForms.NO);
            Subject.due("put out of the table", s.x.put(c[0], c[1], 0), ResultForms.BAD);
        }
        Subject.due("put term 60", s.x.put(0, 0, 60), ResultForms.BAD);
        Subject.due("put term -2", s.x.put(0, 0, -2), ResultForms.BAD);
        Subject.due("put term lowest", s.x.put(0, 0, Integer.MIN_VALUE), ResultForms.BAD);
        Subject.due("the cell stayed", s.x.value(0, 0), 0);
    }

    private static void clears() {
        Subject s = new Subject();
        Subject.due("clear nothing", s.x.clear(), 0);
        s.variable("x");
        int t = s.term(2, 0, "a");
        s.row(t);
        s.row(t);
        s.tape("z");
        s.x.write(2);
        Subject.due("clear", s.x.clear(), 2);
        Subject.due("variables", s.x.count(0), 0);
        Subject.due("rows", s.x.count(1), 0);
        Subject.due("terms stay", s.x.count(2), 1);
        Subject.due("the tape stays", s.x.count(3), 1);
        Subject.due("the out stays", s.out(), "x\r\na\r\na\r\n");
        Subject.due("value then", s.x.value(0, 0), ResultForms.NO);
        Subject.due("the name is free again", s.x.variable(), 0);
        Subject.due("and x", s.variable("x"), 1);
        Subject.due("row then", s.x.row(), 0);
        Subject.due("a row of nothing", s.x.value(0, 0), -1);
        Subject.due("a row of nothing", s.x.value(0, 1), -1);
    }
}
