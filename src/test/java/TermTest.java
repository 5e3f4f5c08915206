/** Promises 4 and 5: term, of. */
final class TermTest {
    public static void main(String[] args) {
        everyByte();
        lengths();
        extras();
        likeOnesAreOne();
        untilFull();
        parts();
        tapeIsEmptyThen();
        Subject.end();
    }

    private static boolean isText(int b) {
        return b == 9 || b == 10 || b == 13 || b >= 32 && b <= 126;
    }

    /** Each byte alone, and behind a letter: which kinds take it. */
    private static void everyByte() {
        for (int b = 0; b < 256; b++) {
            Subject s = new Subject();
            boolean isNode = b >= 33 && b <= 126 && "\"<>\\^`{|}".indexOf(b) < 0;
            boolean isBlank = b >= 'a' && b <= 'z' || b >= '0' && b <= '9';
            for (int kind = 0; kind <= 4; kind++) {
                boolean fits = kind == 0 ? isNode : kind == 1 ? isBlank : isText(b);
                int alone = s.term(kind, 0, String.valueOf((char) b));
                Subject.due("kind " + kind + " of byte " + b, alone >= 0 ? 1 : alone, fits ? 1 : ResultForms.BAD);
                int behind = s.term(kind, 0, "a" + (char) b);
                Subject.due("kind " + kind + " of a and byte " + b, behind >= 0 ? 1 : behind, fits ? 1 : ResultForms.BAD);
            }
        }
    }

    private static void lengths() {
        int[] least = {1, 1, 0, 0, 0};
        int[] most = {20, 8, 20, 20, 20};
        for (int kind = 0; kind <= 4; kind++) {
            for (int n = 0; n <= 22; n++) {
                Subject s = new Subject();
                int want = n >= least[kind] && n <= most[kind] ? 0 : ResultForms.BAD;
                Subject.due("kind " + kind + " of " + n + " bytes", s.term(kind, 0, Subject.times("a", n)), want);
                Subject.due("terms then", s.x.count(2), want == 0 ? 1 : 0);
            }
        }
    }

    private static void extras() {
        Subject s = new Subject();
        Subject.due("node with 1", s.term(0, 1, "a"), ResultForms.BAD);
        Subject.due("blank with 1", s.term(1, 1, "a"), ResultForms.BAD);
        Subject.due("plain with -1", s.term(2, -1, "a"), ResultForms.BAD);
        Subject.due("tag -1", s.term(3, -1, "a"), ResultForms.BAD);
        Subject.due("tag 676", s.term(3, 676, "a"), ResultForms.BAD);
        Subject.due("type -1", s.term(4, -1, "a"), ResultForms.BAD);
        Subject.due("type 4", s.term(4, 4, "a"), ResultForms.BAD);
        Subject.due("kind -1", s.term(-1, 0, "a"), ResultForms.BAD);
        Subject.due("kind 5", s.term(5, 0, "a"), ResultForms.BAD);
        Subject.due("kind highest", s.term(Integer.MAX_VALUE, 0, "a"), ResultForms.BAD);
        Subject.due("no term yet", s.x.count(2), 0);
        Subject.due("tag 0", s.term(3, 0, "a"), 0);
        Subject.due("tag 675", s.term(3, 675, "a"), 1);
        Subject.due("type 0", s.term(4, 0, "a"), 2);
        Subject.due("type 3", s.term(4, 3, "a"), 3);
    }

    private static void likeOnesAreOne() {
        Subject s = new Subject();
        int[][] kinds = {{0, 0}, {1, 0}, {2, 0}, {3, 0}, {3, 1}, {4, 0}, {4, 1}};
        String[] texts = {"a", "b", "ab", "ba", "aa"};
        for (int again = 0; again < 2; again++) {
            int n = 0;
            for (int[] kind : kinds) {
                for (String text : texts) Subject.due("term " + n, s.term(kind[0], kind[1], text), n++);
            }
        }
        Subject.due("terms", s.x.count(2), kinds.length * texts.length);
    }

    private static void untilFull() {
        Subject s = new Subject();
        for (int i = 0; i < 60; i++) Subject.due("term " + i, s.term(2, 0, "t" + i), i);
        Subject.due("a 61st", s.term(2, 0, "x"), ResultForms.FULL);
        Subject.due("a 61st that is wrong", s.term(0, 0, ""), ResultForms.BAD);
        Subject.due("one that is there", s.term(2, 0, "t59"), 59);
        Subject.due("terms", s.x.count(2), 60);
        Subject.due("the tape is empty", s.x.count(3), 0);
    }

    private static void parts() {
        Subject s = new Subject();
        s.term(0, 0, "http://a");
        s.term(1, 0, "b1");
        s.term(2, 0, "");
        s.term(3, 26 * 3 + 4, "\t\n\r ~");
        s.term(4, 2, Subject.times("z", 20));
        Subject.due("term 0", s.told(0), "0/0/http://a");
        Subject.due("term 1", s.told(1), "1/0/b1");
        Subject.due("term 2", s.told(2), "2/0/");
        Subject.due("term 3", s.told(3), "3/82/\t\n\r ~");
        Subject.due("term 4", s.told(4), "4/2/" + Subject.times("z", 20));
        Subject.due("byte behind the last", s.x.of(1, 5), ResultForms.BAD);
        Subject.due("byte of the empty one", s.x.of(2, 3), ResultForms.BAD);
        Subject.due("21st byte", s.x.of(4, 23), ResultForms.BAD);
        Subject.due("what -1", s.x.of(0, -1), ResultForms.BAD);
        Subject.due("what lowest", s.x.of(0, Integer.MIN_VALUE), ResultForms.BAD);
        Subject.due("what highest", s.x.of(0, Integer.MAX_VALUE), ResultForms.BAD);
        Subject.due("term 5", s.x.of(5, 0), ResultForms.BAD);
        Subject.due("term -1", s.x.of(-1, 0), ResultForms.BAD);
        Subject.due("term -1's length", s.x.of(-1, 2), ResultForms.BAD);
    }

    private static void tapeIsEmptyThen() {
        Subject s = new Subject();
        s.term(9, 0, "abc");
        Subject.due("tape behind a wrong kind", s.x.count(3), 0);
        s.term(3, 999, "abc");
        Subject.due("tape behind a wrong tag", s.x.count(3), 0);
        s.term(0, 0, Subject.times("a", 21));
        Subject.due("tape behind a long text", s.x.count(3), 0);
        s.term(0, 0, "abc");
        Subject.due("tape behind a term", s.x.count(3), 0);
    }
}
