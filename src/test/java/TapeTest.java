/** Promises 1, 2, 3, 13, 20: a new object, type, pass, at, count. */
final class TapeTest {
    public static void main(String[] args) {
        newObject();
        types();
        typesUntilFull();
        passes();
        counts();
        Subject.end();
    }

    private static void newObject() {
        Subject s = new Subject();
        for (int what = 0; what <= 4; what++) Subject.due("new count(" + what + ")", s.x.count(what), 0);
        Subject.due("new at(0)", s.x.at(0), ResultForms.BAD);
        Subject.due("new of(0, 0)", s.x.of(0, 0), ResultForms.BAD);
        Subject.due("new value(0, 0)", s.x.value(0, 0), ResultForms.NO);
        Subject.due("new same(true)", s.x.same(true), ResultForms.NO);
        Subject.due("new same(false)", s.x.same(false), ResultForms.NO);
        Subject.due("new lacks(0)", s.x.lacks(0), ResultForms.NO);
        Subject.due("new pass()", s.x.pass(), 0);
    }

    private static void types() {
        Subject s = new Subject();
        Subject.due("type of two", s.x.type(0x6162636465L, 2), 2);
        Subject.due("term", s.x.term(2, 0), 0);
        Subject.due("lowest bytes, highest first", s.told(0), "2/0/de");
        Subject.due("type of eight", s.x.type(0x6162636465666768L, 8), 8);
        s.x.term(2, 0);
        Subject.due("eight bytes", s.told(1), "2/0/abcdefgh");
        Subject.due("type of 0", s.x.type(97, 0), ResultForms.BAD);
        Subject.due("type of 9", s.x.type(97, 9), ResultForms.BAD);
        Subject.due("type of -1", s.x.type(97, -1), ResultForms.BAD);
        Subject.due("nothing came", s.x.count(3), 0);
        Subject.due("negative bytes", s.x.type(-1, 8), 8);
        Subject.due("a byte 255 is no text", s.x.term(2, 0), ResultForms.BAD);
    }

    private static void typesUntilFull() {
        Subject s = new Subject();
        for (int i = 0; i < 374; i++) s.x.type(0, 8);
        Subject.due("tape of 2992", s.x.count(3), 2992);
        Subject.due("wrong n of a nearly full tape", s.x.type(0, 9), ResultForms.BAD);
        Subject.due("one short of it", s.x.type(0, 7), 2999);
        Subject.due("two more", s.x.type(0, 2), ResultForms.FULL);
        Subject.due("nothing came", s.x.count(3), 2999);
        Subject.due("one more", s.x.type(0, 1), 3000);
        Subject.due("one too many", s.x.type(0, 1), ResultForms.FULL);
        Subject.due("wrong n of a full tape", s.x.type(0, 0), ResultForms.BAD);
        Subject.due("nothing in the out comes behind a full tape", s.x.pass(), 3000);
    }

    private static void passes() {
        Subject s = new Subject();
        s.x.say(0, true);
        s.tape("ab");
        Subject.due("pass behind", s.x.pass(), 28);
        Subject.due("the out stays", s.out(), "{\"head\":{},\"boolean\":true}");
        Subject.due("pass again", s.x.pass(), 54);
        Subject.due("it came behind the two", s.x.hear(0), -10);
        s.x.pass();
        Subject.due("what was passed is what was written", s.x.hear(0), 1);
        for (int i = 0; i < 115; i++) s.x.pass();
        Subject.due("tape of 115 * 26", s.x.count(3), 2990);
        Subject.due("pass too much", s.x.pass(), ResultForms.FULL);
        Subject.due("nothing came", s.x.count(3), 2990);
        s.x.hear(0);
        s.x.type(0, 4);
        for (int i = 0; i < 115; i++) s.x.pass();
        Subject.due("tape of 2994", s.x.count(3), 2994);
        s.x.hear(0);
        for (int i = 0; i < 115; i++) s.x.pass();
        s.x.write(2);
        for (int i = 0; i < 5; i++) s.x.pass();
        Subject.due("pass up to the last byte", s.x.count(3), 3000);
        Subject.due("pass one too many", s.x.pass(), ResultForms.FULL);
    }

    private static void counts() {
        Subject s = new Subject();
        s.variable("x");
        s.variable("y");
        s.term(2, 0, "a");
        s.term(2, 0, "b");
        s.term(2, 0, "c");
        s.row(0, 1);
        s.x.write(2);
        s.tape("12345");
        Subject.due("variables", s.x.count(0), 2);
        Subject.due("rows", s.x.count(1), 1);
        Subject.due("terms", s.x.count(2), 3);
        Subject.due("tape", s.x.count(3), 5);
        Subject.due("out", s.x.count(4), 10);
        Subject.due("count(5)", s.x.count(5), ResultForms.BAD);
        Subject.due("count(-1)", s.x.count(-1), ResultForms.BAD);
        Subject.due("at the first", s.x.at(0), 'x');
        Subject.due("at the last", s.x.at(9), 10);
        Subject.due("at behind", s.x.at(10), ResultForms.BAD);
        Subject.due("at before", s.x.at(-1), ResultForms.BAD);
        Subject.due("at the lowest", s.x.at(Integer.MIN_VALUE), ResultForms.BAD);
        Subject.due("at the highest", s.x.at(Integer.MAX_VALUE), ResultForms.BAD);
    }
}
