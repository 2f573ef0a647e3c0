import java.util.Random;

/** Any arguments in any state, in 512 calls: nothing is thrown, and the same calls answer the same on another object. */
final class WildTest {
    private static final int[] EDGES = {0, 1, -1, 2, 3, 4, 5, 6, 7, 8, 9, 10, 11, 24, 40, 50, 59, 60, 61, 99, 100, 119, 120, 127, 128,
        201, 218, 503, 9999, 10000, 10001, 20002, 70008, 120034, 990099, 1000100, 99990001, 99999999, 100000000, 999999999,
        -2, -14, -10001, Integer.MAX_VALUE, Integer.MIN_VALUE, Integer.MAX_VALUE - 1, Integer.MIN_VALUE + 1};
    private static final long[] LONGS = {0L, 1L, -1L, 4L, 8L, 32L, 1024L, 59049L, 999999999999999999L, 1000000000000000000L,
        999999998000000001L, Long.MAX_VALUE, Long.MIN_VALUE, 99999999999999999L, 100000000000000000L};

    /** A text drawn is fed by fours and read: six calls at most. */
    private static final int TEXT_CALLS = 6;

    private static int edge(Random random) {
        return random.nextInt(8) == 0 ? random.nextInt() : EDGES[random.nextInt(EDGES.length)];
    }

    private static long call(HeadReckons x, int drawn, Random random) {
        int a = edge(random);
        int b = edge(random);
        int c = edge(random);
        int d = edge(random);
        int e = edge(random);
        long n = random.nextInt(4) == 0 ? random.nextLong() : LONGS[random.nextInt(LONGS.length)];
        switch (drawn) {
            case 0: return x.feed(a, b);
            case 1: return x.head();
            case 2: return x.of(a, b);
            case 3: return x.turn(a, b, c);
            case 4: return x.choice();
            case 5: return x.way(a, b, c);
            case 6: return x.step(a, b, c, d);
            case 7: return x.chosen(a, b);
            case 8: return x.answer(a, b, c);
            case 9: return x.quickest(a, b, c);
            case 10: return x.table(a, b, c);
            case 11: return x.see(a, b, c);
            case 12: return x.asks(a, b, c);
            case 13: return x.seen(a, b);
            case 14: return x.fits(a, b);
            case 15: return x.best(a, b);
            case 16: return x.slip(a, b, c);
            case 17: return x.suits(a);
            case 18: return x.tell(a);
            case 19: return x.untell();
            case 20: return x.parts(a, b, c);
            case 21: return x.ask(a, b);
            case 22: return x.taught(a, b, c);
            case 23: return x.first(a, b);
            case 24: return x.root(n, a);
            case 25: return x.firsts(n, a, b);
            case 26: return x.enough(n, a);
            case 27: return x.undo();
            case 28: return x.redo();
            case 29: return x.body(a);
            case 30: return x.act(a, b, c);
            case 31: return x.trace(a);
            case 32: return x.keep(a, b);
            case 33: return x.row(a, b, c);
            case 34: return x.put(a, b, n);
            case 35: return x.element(a, b);
            case 36: return x.shift(a, b, c, d, e);
            case 37: return x.taken(a, b);
            case 38: return x.count(a);
            case 39: return Check.head(x, "l" + Math.floorMod(a, 100) + "a2h3t" + (9 + Math.floorMod(b, 91)) + "c3");
            case 40: return Check.choice(x, "m<n?d%7;(x+y)*z-t/c");
            case 41: return x.see(Check.pair(1 + Math.floorMod(a, 9999), 1 + Math.floorMod(b, 9999)), 50, c);
            case 42: return x.tell(Check.pair(1 + Math.floorMod(a, 99), 1 + Math.floorMod(b, 99)));
            default: return x.root(n, 2 + random.nextInt(4));
        }
    }

    public static void main(String[] args) {
        Check c = new Check("WildTest");
        for (int seed = 1; seed <= 3000; seed++) {
            Random drawing = new Random(-seed);
            Random random = new Random(seed);
            Random again = new Random(seed);
            HeadReckons x = new HeadReckons();
            HeadReckons y = new HeadReckons();
            int calls = 0;
            while (calls <= 512 - TEXT_CALLS) {
                int drawn = drawing.nextInt(44);
                c.due("seed " + seed + ", call " + calls, call(x, drawn, random), call(y, drawn, again));
                calls += drawn == 39 || drawn == 40 ? TEXT_CALLS : 1;
            }
        }
        c.end();
    }
}
