import java.util.Random;

/** Calls by chance (always the same ones) on objects of 512 calls: none throws, and the same calls answer the same. */
final class AnyCallsTest {
    private static final String[] PIECES = {"x", "y", "ab", "_:b", "\"a\"", "<u>", ",", "\t", "\n", "\r\n", "?x", "{", "}", "[", "]", ":",
        "\"", "{\"head\":{\"vars\":[\"x\"]},\"results\":{\"bindings\":[", "]}}", "\\", "&amp;", "<sparql><head>", "</head><results>",
        "<result>", "</result>", "\u0000", "\u00ff", "{\"x\":{\"type\":\"uri\",\"value\":\"", "@en", "^^date", "aaaaaaaaaaaaaaaaaaaaaaaaaaaaaa"};

    public static void main(String[] args) {
        for (int seed = 0; seed < 150; seed++) {
            Subject.due("answers of seed " + seed, run(seed), run(seed));
        }
        Subject.end();
    }

    private static int any(Random chance) {
        switch (chance.nextInt(8)) {
            case 0: return Integer.MAX_VALUE - chance.nextInt(4);
            case 1: return Integer.MIN_VALUE + chance.nextInt(4);
            case 2: return chance.nextInt();
            default: return chance.nextInt(8) - 2;
        }
    }

    private static long run(int seed) {
        Random chance = new Random(seed);
        Subject s = new Subject();
        long all = 0;
        for (int i = 0; i < 512; i++) all = all * 31 + call(s, chance);
        return all;
    }

    private static int call(Subject s, Random chance) {
        ResultForms x = s.x;
        switch (chance.nextInt(24)) {
            case 0: return x.type(chance.nextLong(), any(chance));
            case 1: return x.pass();
            case 2: return x.term(any(chance), any(chance));
            case 3: return x.of(any(chance), any(chance));
            case 4: return x.variable();
            case 5: return x.row();
            case 6: return x.put(any(chance), any(chance), any(chance));
            case 7: return chance.nextInt(4) == 0 ? x.clear() : 0;
            case 8: return x.value(any(chance), any(chance));
            case 9: return x.write(any(chance));
            case 10: return x.say(any(chance), chance.nextBoolean());
            case 11: return x.at(any(chance));
            case 12: return x.read(any(chance));
            case 13: return x.hear(any(chance));
            case 14: return x.keep();
            case 15: return x.same(chance.nextBoolean());
            case 16: return x.lacks(any(chance));
            case 17: return x.distinct();
            case 18: return x.count(any(chance));
            default: return s.tape(PIECES[chance.nextInt(PIECES.length)]);
        }
    }
}
