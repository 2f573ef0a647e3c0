/** Promises 31 to 40: bodies and their acts, the trace, shelves and rows, counts. */
final class ShelfTest {
    private static final Check C = new Check("ShelfTest");
    private static final long NONE = Long.MIN_VALUE;

    private static void bodies() {
        HeadReckons x = new HeadReckons();
        C.due("kind -1", x.body(-1), -1);
        C.due("kind 8", x.body(8), -1);
        for (int i = 0; i < 50; i++) {
            C.due("body", x.body(i % 8), i);
        }
        C.due("the 51st", x.body(0), -3);
        C.due("BAD ahead of FULL", x.body(8), -1);
        C.due("count(5)", x.count(5), 50);
    }

    /** Of each kind, with x = 10 and the body's number n = kind: the answers of the four acts and their traces. */
    private static void acts() {
        int[][][] traces = {
            {{1}, {10, 1}, {11}, {2, 10, 1, 11}},
            {{20, 1}, {10, 20, 1}, {11}, {2, 10, 20, 1, 11}},
            {{1}, {30, 10, 1}, {11}, {2, 30, 10, 1, 11}},
            {{1}, {30, 10, 1}, {40, 11}, {2, 30, 10, 1, 40, 11}},
            {{1}, {10, 1}, {11}, {50, 2, 10, 1, 11}},
            {{60, 20, 1}, {10, 60, 20, 1}, {61, 11, 60, 20, 1}, {2, 10, 60, 20, 1, 61, 11, 60, 20, 1}},
            {{1}, {10, 1}, {70, 11}, {2, 10, 1, 70, 11}},
            {{1}, {80, 10, 1}, {70, 11}, {81, 2, 80, 10, 1, 70, 11, 70, 11}}};
        int[][] answers = {
            {10, 20, 10, 20 - 1},
            {14, 28, 10 ^ 1, 28 - 0},
            {12, -24, 10 ^ 2, -24 - (1 ^ 2)},
            {13, -26, 3 * (10 ^ 3), -26 - 3 * (1 ^ 3)},
            {14, 28, 10 ^ 4, 28 - (1 ^ 4) ^ 5},
            {11 + 5 + 3, 38, (10 ^ 5) + 3 + 5 + 3, 38 - ((1 ^ 5) + 11)},
            {16, 32, (10 ^ 6) - 1, 32 - ((1 ^ 6) - 1)},
            {17, 68, (10 ^ 7) - 1, 68 - ((1 ^ 7) - 1) - ((2 ^ 7) - 1)}};
        HeadReckons x = new HeadReckons();
        for (int kind = 0; kind < 8; kind++) {
            x.body(kind);
        }
        for (int kind = 0; kind < 8; kind++) {
            for (int act = 0; act < 4; act++) {
                C.due("act " + act + " of kind " + kind, x.act(kind, act, 10), answers[kind][act]);
                int[] trace = traces[kind][act];
                C.due("how many ran", x.count(6), trace.length);
                for (int i = 0; i < trace.length; i++) {
                    C.due("trace of act " + act + " of kind " + kind + ", " + i, x.trace(i), trace[i]);
                }
                C.due("no more", x.trace(trace.length), -1);
                C.due("trace(-1)", x.trace(-1), -1);
            }
        }
        x.body(0);
        C.due("ints wrap", x.act(8, 1, Integer.MAX_VALUE), (Integer.MAX_VALUE + 8) * 2);
        C.due("count(6)", x.count(6), 2);
        C.due("no such act", x.act(8, 4, 5), 0);
        C.due("no trace", x.count(6), 0);
        C.due("trace(0)", x.trace(0), -1);
        x.act(8, 0, 5);
        C.due("act -1", x.act(8, -1, 5), 0);
        C.due("trace(0)", x.trace(0), -1);
        x.act(8, 0, 5);
        C.due("no such body", x.act(9, 0, 5), 0);
        C.due("count(6)", x.count(6), 0);
        x.act(8, 0, 5);
        C.due("body -1", x.act(-1, 0, 5), 0);
        C.due("count(6)", x.count(6), 0);
    }

    private static void rows() {
        HeadReckons x = new HeadReckons();
        C.due("n 60", x.row(0, 3, 60), 1);
        C.due("n 61", x.row(0, 3, 61), -1);
        C.due("n 0", x.row(1, 3, 0), 1);
        C.due("n -1", x.row(0, 3, -1), -14);
        C.due("the least n", x.row(0, 3, Integer.MIN_VALUE), -14);
        C.due("sort 5", x.row(0, 5, 3), -1);
        C.due("sort -1", x.row(0, -1, 3), -1);
        C.due("sort 5, n -1", x.row(0, 5, -1), -1);
        C.due("shelf 6", x.row(6, 3, 3), -1);
        C.due("shelf -1", x.row(-1, 3, 3), -1);
        C.due("shelf 6, n -1", x.row(6, 3, -1), -1);
        C.due("it stays", x.element(0, 59), 0);
        C.due("place 60", x.element(0, 60), NONE);
        C.due("place -1", x.element(0, -1), NONE);
        C.due("a row of none", x.element(1, 0), NONE);
        C.due("put in a row of none", x.put(1, 0, 5L), -13);
        C.due("put at 60", x.put(0, 60, 5L), -13);
        C.due("put at -1", x.put(0, -1, 5L), -13);
        C.due("put", x.put(0, 59, 5L), 1);
        C.due("put", x.put(0, 0, 5L), 1);
        C.due("element", x.element(0, 59), 5);
        C.due("a new row", x.row(0, 3, 60), 1);
        C.due("is 0 again", x.element(0, 59), 0);
        C.due("is 0 again", x.element(0, 0), 0);
        C.due("put on nothing", x.put(2, 0, 5L), -11);
        C.due("put on no shelf", x.put(6, 0, 5L), -1);
        C.due("put on shelf -1", x.put(-1, 0, 5L), -1);
        C.due("element of nothing", x.element(2, 0), NONE);
        C.due("element of no shelf", x.element(6, 0), NONE);
        x.body(0);
        x.keep(2, 0);
        C.due("put in a body", x.put(2, 0, 5L), -12);
        C.due("element of a body", x.element(2, 0), NONE);
    }

    private static void lowestBits() {
        long[] values = {0L, 1L, -1L, 2L, 127L, 128L, 255L, 256L, -129L, 32767L, 32768L, 65535L, 65536L, 2147483647L, 2147483648L,
            4294967296L, Long.MAX_VALUE, Long.MIN_VALUE + 1L, 0x123456789ABCDEF0L};
        HeadReckons x = new HeadReckons();
        for (int sort = 0; sort <= 4; sort++) {
            x.row(sort, sort, 3);
            for (long v : values) {
                long want = sort == 0 ? (byte) v : sort == 1 ? (short) v : sort == 2 ? (int) v : sort == 3 ? v : v == 0 ? 0 : 1;
                C.due("put", x.put(sort, 1, v), 1);
                C.due("element of sort " + sort + " after " + v, x.element(sort, 1), want);
                C.due("its neighbours stay", x.element(sort, 0) | x.element(sort, 2), 0);
            }
        }
    }

    private static void shifts() {
        HeadReckons x = new HeadReckons();
        x.row(0, 2, 6);
        x.row(1, 2, 3);
        x.row(2, 3, 6);
        for (int i = 0; i < 6; i++) {
            x.put(0, i, 10 + i);
        }
        C.due("to another", x.shift(0, 2, 1, 0, 3), 3);
        C.due("element", x.element(1, 2), 14);
        C.due("to itself, on", x.shift(0, 0, 0, 1, 5), 5);
        int[] on = {10, 10, 11, 12, 13, 14};
        for (int i = 0; i < 6; i++) {
            C.due("element " + i, x.element(0, i), on[i]);
        }
        C.due("to itself, back", x.shift(0, 2, 0, 0, 4), 4);
        int[] back = {11, 12, 13, 14, 13, 14};
        for (int i = 0; i < 6; i++) {
            C.due("element " + i, x.element(0, i), back[i]);
        }
        C.due("none", x.shift(0, 6, 1, 3, 0), 0);
        C.due("none, from behind the end", x.shift(0, 7, 1, 3, 0), -13);
        C.due("none, to behind the end", x.shift(0, 6, 1, 4, 0), -13);
        C.due("too many from", x.shift(0, 4, 1, 0, 3), -13);
        C.due("too many to", x.shift(0, 0, 1, 1, 3), -13);
        C.due("from -1", x.shift(0, -1, 1, 0, 1), -13);
        C.due("to -1", x.shift(0, 0, 1, -1, 1), -13);
        C.due("n -1", x.shift(0, 0, 1, 0, -1), -13);
        C.due("wild", x.shift(0, Integer.MAX_VALUE, 1, 0, Integer.MAX_VALUE), -13);
        C.due("wild", x.shift(0, 1, 1, Integer.MAX_VALUE, 1), -13);
        C.due("unlike sorts", x.shift(0, 0, 2, 0, 1), -12);
        C.due("unlike sorts ahead of places", x.shift(0, 9, 2, 0, 1), -12);
        C.due("from nothing", x.shift(3, 0, 1, 0, 1), -11);
        C.due("to nothing", x.shift(0, 0, 3, 0, 1), -11);
        x.body(0);
        x.keep(4, 0);
        C.due("from a body", x.shift(4, 0, 1, 0, 1), -12);
        C.due("to a body", x.shift(0, 0, 4, 0, 1), -12);
        C.due("body to body", x.shift(4, 0, 4, 0, 1), -12);
        C.due("nothing ahead of a body", x.shift(4, 0, 3, 0, 1), -11);
        C.due("shelf 6", x.shift(6, 0, 1, 0, 1), -1);
        C.due("other 6", x.shift(0, 0, 6, 0, 1), -1);
        C.due("BAD ahead of nothing", x.shift(3, 0, -1, 0, 1), -1);
        C.due("all stays", x.element(1, 0), 12);
    }

    private static void keepsAndTaken() {
        HeadReckons x = new HeadReckons();
        int[] above = {-1, 0, 0, 2, 0, 1, 0, 6};
        C.due("no body yet", x.keep(0, 0), -1);
        C.due("taken of nothing", x.taken(0, 0), -11);
        for (int kind = 0; kind < 8; kind++) {
            x.body(kind);
        }
        for (int kind = 0; kind < 8; kind++) {
            C.due("keep", x.keep(3, kind), 1);
            for (int k = 0; k < 8; k++) {
                boolean under = false;
                for (int up = kind; up >= 0; up = above[up]) {
                    under |= up == k;
                }
                C.due("kind " + kind + " as " + k, x.taken(3, k), under ? kind : -12);
            }
        }
        C.due("k 8", x.taken(3, 8), -1);
        C.due("k -1", x.taken(3, -1), -1);
        C.due("shelf 6", x.taken(6, 0), -1);
        C.due("shelf -1", x.taken(-1, 0), -1);
        C.due("k 8 of nothing", x.taken(0, 8), -1);
        x.row(4, 2, 3);
        C.due("taken of a row", x.taken(4, 0), -12);
        C.due("keep body 8", x.keep(3, 8), -1);
        C.due("keep body -2", x.keep(3, -2), -1);
        C.due("keep on 6", x.keep(6, 0), -1);
        C.due("keep on -1", x.keep(-1, -1), -1);
        C.due("it stays", x.taken(3, 7), 7);
        C.due("nothing", x.keep(3, -1), 1);
        C.due("taken of nothing", x.taken(3, 7), -11);
        C.due("a row ahead of a body", x.keep(4, 5), 1);
        C.due("is gone", x.element(4, 0), NONE);
        C.due("the body is there", x.taken(4, 1), 5);
        C.due("a body ahead of a row", x.row(4, 0, 2), 1);
        C.due("is gone", x.taken(4, 1), -12);
        C.due("a row of none is a row", x.row(4, 0, 0), 1);
        C.due("taken", x.taken(4, 1), -12);
        C.due("nothing ahead of a row", x.keep(4, -1), 1);
        C.due("element", x.put(4, 0, 1L), -11);
    }

    private static void counts() {
        HeadReckons x = Check.withHead("l5a2h3t12c3");
        Check.feed(x, "abcde");
        x.see(70008, 1, 1);
        x.see(70008, 1, 1);
        x.tell(70008);
        x.tell(70008);
        x.tell(70008);
        x.turn(0, 0, 1);
        x.turn(0, 0, 2);
        x.turn(0, 0, 3);
        x.turn(0, 0, 4);
        for (int i = 0; i < 6; i++) {
            x.body(5);
        }
        x.act(2, 3, 1);
        int[] all = {1, 2, 5, 3, 4, 6, 10};
        for (int what = 0; what <= 6; what++) {
            C.due("count(" + what + ")", x.count(what), all[what]);
        }
        C.due("count(7)", x.count(7), -1);
        C.due("count(-1)", x.count(-1), -1);
    }

    public static void main(String[] args) {
        bodies();
        acts();
        rows();
        lowestBits();
        shifts();
        keepsAndTaken();
        counts();
        C.end();
    }
}
