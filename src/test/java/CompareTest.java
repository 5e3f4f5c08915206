/** Promises 16 to 19: keep, same, lacks, distinct. */
final class CompareTest {
    public static void main(String[] args) {
        nothingKept();
        keeps();
        orders();
        names();
        lacking();
        distinct();
        withoutVariables();
        Subject.end();
    }

    private static void nothingKept() {
        Subject s = new Subject();
        s.row();
        Subject.due("same(true)", s.x.same(true), ResultForms.NO);
        Subject.due("same(false)", s.x.same(false), ResultForms.NO);
        Subject.due("lacks(0)", s.x.lacks(0), ResultForms.NO);
        s.x.clear();
        Subject.due("keep an empty one", s.x.keep(), 0);
        Subject.due("same(true)", s.x.same(true), 1);
        Subject.due("same(false)", s.x.same(false), 1);
        Subject.due("lacks(0)", s.x.lacks(0), ResultForms.NO);
        Subject.due("lacks(-1)", s.x.lacks(-1), ResultForms.NO);
    }

    private static void keeps() {
        Subject s = new Subject();
        s.read(2, "x\r\na\r\nb\r\n");
        Subject.due("keep", s.x.keep(), 2);
        Subject.due("the table goes on", s.written(2), "x\r\na\r\nb\r\n");
        s.x.put(0, 0, -1);
        Subject.due("a cell put in the table alone", s.x.same(true), 0);
        s.x.put(0, 0, 0);
        Subject.due("and put back", s.x.same(true), 1);
        s.x.row();
        Subject.due("a row more in the table alone", s.x.same(true), 0);
        s.x.clear();
        Subject.due("the table cleared alone", s.x.same(true), 0);
        s.read(2, "x\r\na\r\nb\r\n");
        Subject.due("read again", s.x.same(true), 1);
        s.read(2, "y\r\n");
        Subject.due("keep another", s.x.keep(), 0);
        Subject.due("same as the other", s.x.same(true), 1);
        s.x.distinct();
        Subject.due("still", s.x.same(false), 1);
        s.read(2, "y,z\r\na,b\r\n");
        s.read(2, "y\r\n");
        Subject.due("names that were there before do not count", s.x.same(true), 1);
    }

    private static void compared(String kept, String table, int ordered, int unordered, int... lacks) {
        Subject s = new Subject();
        s.read(2, kept);
        s.x.keep();
        s.read(2, table);
        String what = Subject.shown(kept) + " against " + Subject.shown(table);
        Subject.due("same(true): " + what, s.x.same(true), ordered);
        Subject.due("same(false): " + what, s.x.same(false), unordered);
        for (int i = 0; i < lacks.length; i++) Subject.due("lacks(" + i + "): " + what, s.x.lacks(i), lacks[i]);
        Subject.due("lacks no more: " + what, s.x.lacks(lacks.length), ResultForms.NO);
        Subject.due("lacks(-1): " + what, s.x.lacks(-1), ResultForms.NO);
        Subject.due("lacks(lowest): " + what, s.x.lacks(Integer.MIN_VALUE), ResultForms.NO);
        Subject.due("lacks(highest): " + what, s.x.lacks(Integer.MAX_VALUE), ResultForms.NO);
        Subject.due("asked again: " + what, s.x.same(false), unordered);
    }

    private static void orders() {
        compared("x,y\r\na,b\r\nc,\r\n", "x,y\r\na,b\r\nc,\r\n", 1, 1);
        compared("x,y\r\na,b\r\nc,\r\n", "x,y\r\nc,\r\na,b\r\n", 0, 1);
        compared("x,y\r\na,b\r\n", "x,y\r\nb,a\r\n", 0, 0, 0);
        compared("x,y\r\na,b\r\n", "x,y\r\na,\r\n", 0, 0, 0);
        compared("x,y\r\na,b\r\n", "x,y\r\na,_:b\r\n", 0, 0, 0);
        compared("x\r\na\r\na\r\nb\r\n", "x\r\na\r\nb\r\nb\r\n", 0, 0, 2);
        compared("x\r\na\r\nb\r\na\r\n", "x\r\na\r\na\r\nb\r\n", 0, 1);
        compared("x\r\na\r\n", "x\r\na\r\na\r\n", 0, 0, 1);
        compared("x\r\na\r\na\r\n", "x\r\na\r\n", 0, 0);
        compared("x\r\n\r\n\"\"\r\n", "x\r\n\"\"\r\n\r\n", 0, 1);
    }

    private static void names() {
        compared("x\r\na\r\n", "y\r\na\r\n", 0, 0, 0);
        compared("x,y\r\na,a\r\n", "y,x\r\na,a\r\n", 0, 0, 0);
        compared("x,y\r\na,\r\n", "x\r\na\r\nb\r\n", 0, 0, 0, 1);
        compared("x\r\na\r\n", "x,y\r\na,\r\n", 0, 0, 0);
        compared("x\r\n", "xx\r\n", 0, 0);
        compared("xx\r\na\r\n", "x\r\na\r\n", 0, 0, 0);
        compared("x\r\n", "\r\n", 0, 0);
        compared("xa\r\n", "xb\r\n", 0, 0);
        compared("x\r\n", "x\r\n", 1, 1);
    }

    private static void lacking() {
        compared("x\r\n", "x\r\na\r\nb\r\na\r\n", 0, 0, 0, 1, 2);
        compared("x\r\na\r\n", "x\r\nb\r\na\r\nb\r\na\r\n", 0, 0, 0, 2, 3);
        compared("x\r\nb\r\na\r\nb\r\n", "x\r\na\r\na\r\nb\r\nc\r\nb\r\nb\r\n", 0, 0, 1, 3, 5);
        compared("x\r\nc\r\nb\r\na\r\n", "x\r\na\r\nb\r\nc\r\n", 0, 1);
    }

    private static void distinct() {
        String[][] pairs = {{"x\r\n", "x\r\n"}, {"x\r\na\r\n", "x\r\na\r\n"}, {"x\r\na\r\na\r\n", "x\r\na\r\n"},
            {"x\r\nb\r\na\r\nb\r\na\r\nc\r\nb\r\n", "x\r\nb\r\na\r\nc\r\n"}, {"x,y\r\na,b\r\na,\r\n,b\r\na,b\r\n,\r\n,b\r\n", "x,y\r\na,b\r\na,\r\n,b\r\n,\r\n"}};
        int[] gone = {0, 0, 1, 3, 2};
        for (int i = 0; i < pairs.length; i++) {
            Subject s = new Subject();
            s.read(2, pairs[i][0]);
            Subject.due("distinct", s.x.distinct(), gone[i]);
            Subject.due("what is left", s.written(2), pairs[i][1]);
            Subject.due("distinct again", s.x.distinct(), 0);
            int rows = s.x.count(1);
            Subject.due("row behind", s.x.row(), rows);
            if (s.x.count(0) > 0) Subject.due("it is of nothing", s.x.value(rows, 0), -1);
        }
        Subject s = new Subject();
        s.read(2, "x\r\n" + Subject.times("a\r\n", 24));
        s.x.keep();
        Subject.due("23 go", s.x.distinct(), 23);
        Subject.due("the kept one has them all", s.x.same(false), 0);
        Subject.due("none is lacking", s.x.lacks(0), ResultForms.NO);
    }

    private static void withoutVariables() {
        Subject s = new Subject();
        for (int i = 0; i < 5; i++) s.x.row();
        s.x.keep();
        Subject.due("same", s.x.same(false), 1);
        Subject.due("rows of nothing are alike", s.x.distinct(), 4);
        Subject.due("same", s.x.same(false), 0);
        Subject.due("lacks", s.x.lacks(0), ResultForms.NO);
        for (int i = 0; i < 5; i++) s.x.row();
        Subject.due("the sixth is too many", s.x.lacks(0), 5);
        Subject.due("and it alone", s.x.lacks(1), ResultForms.NO);
    }
}
