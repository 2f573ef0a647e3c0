/** Edges of promises 31 to 40: bodies and their acts, the trace, shelves and rows, counts. */
final class EdgeShelvesTest {
    private static final Check C = new Check("EdgeShelvesTest");
    private static final int MIN = Integer.MIN_VALUE, MAX = Integer.MAX_VALUE;
    private static final long NONE = Long.MIN_VALUE;

    private static void fiftyBodies() {
        C.sentence("BODIES 0 .. 49 are kept by call, of KINDS. A BODY of a KIND (0 .. 7) is kept: its number. BAD, FULL.");
        HeadReckons x = new HeadReckons();
        for (int i = 0; i <= 49; i++) {
            for (int kind : new int[] {MIN, -1, 8, 9, MAX}) {
                C.due("kind " + kind, x.body(kind), -1);
            }
            C.due("kind " + i % 8, x.body(i % 8), i);
            C.due("count(5)", x.count(5), i + 1);
        }
        C.due("the 51st", x.body(0), -3);
        C.due("the 51st again", x.body(7), -3);
        C.due("BAD is named ahead of FULL", x.body(8), -1);
        C.due("BAD is named ahead of FULL", x.body(-1), -1);
        C.due("count(5)", x.count(5), 50);
        C.due("body 49, a LEFT", x.act(49, 0, 100), 100 + 49 + 3);
        C.due("body 48, a WAY", x.act(48, 0, 100), 100 + 48);
        C.due("there is no body 50", x.act(50, 0, 100), 0);
    }

    private static void noSuchBodyOrAct() {
        C.sentence("An ACT (0 .. 3) of a BODY with x. 0, and no TRACE then: no such BODY, ACT.");
        HeadReckons x = new HeadReckons();
        C.due("no BODY at all", x.act(0, 0, 5), 0);
        C.due("nothing ran", x.count(6), 0);
        x.body(0);
        x.body(1);
        for (int body : new int[] {MIN, -1, 2, 49, 50, MAX}) {
            C.due("an ACT", x.act(1, 0, 5), 9);
            C.due("two ran", x.count(6), 2);
            C.due("body " + body, x.act(body, 0, 5), 0);
            C.due("nothing ran", x.count(6), 0);
            C.due("no TRACE", x.trace(0), -1);
        }
        for (int act : new int[] {MIN, -1, 4, 5, MAX}) {
            C.due("an ACT", x.act(1, 3, 5), (5 + 1 + 3) * 2 - (1 ^ 1));
            C.due("five ran", x.count(6), 5);
            C.due("act " + act, x.act(1, act, 5), 0);
            C.due("nothing ran", x.count(6), 0);
            C.due("no TRACE", x.trace(0), -1);
        }
        C.due("act 0", x.act(0, 0, 5), 5);
        C.due("act 3", x.act(0, 3, 5), 10 - 1);
    }

    private static void wraps() {
        C.sentence("ACTS with x (an int that wraps); n its number");
        HeadReckons x = new HeadReckons();
        x.body(0);
        for (int kind = 0; kind <= 7; kind++) {
            x.body(kind);
        }
        C.due("costs of WAY 0", x.act(0, 0, MAX), MAX);
        C.due("costs of WAY 0", x.act(0, 0, MIN), MIN);
        C.due("costs of WAY 1", x.act(1, 0, MAX), MIN);
        C.due("keeps of WAY 0", x.act(0, 1, 1073741824), MIN);
        C.due("keeps of WAY 1", x.act(1, 1, MAX), 0);
        C.due("slips of WAY 1", x.act(1, 2, MIN), MIN + 1);
        C.due("tells of WAY 0", x.act(0, 3, -1073741824), MAX);
        C.due("costs of LEFT 2", x.act(2, 0, MAX), MIN + 4);
        C.due("costs of LEFT 2", x.act(2, 0, MAX - 5), MAX);
        C.due("keeps of RIGHT 3", x.act(3, 1, 1073741824 - 3), MIN);
        C.due("slips of CROSSED 4", x.act(4, 2, MAX), 2147483633);
        C.due("tells of SQUARED 5", x.act(5, 3, -1073741824 - 5), 2147483641);
        C.due("costs of SPLIT 6", x.act(6, 0, MAX), MIN + 9);
        C.due("slips of SPLIT 6, and its costs of 2", x.act(6, 2, MAX ^ 6), MIN + 11);
        C.due("slips of KNOWN 7", x.act(7, 2, MIN + 7), MAX);
        C.due("keeps of ROOTED 8", x.act(8, 1, 536870912 - 8), MIN);
        C.due("tells of ROOTED 8", x.act(8, 3, 536870912 - 8), MAX - 16);
    }

    private static void traceBounds() {
        C.sentence("THE TRACE: numbers of the bodies that ran in the latest act(), as they began; the first 24 are kept. BAD.");
        HeadReckons x = new HeadReckons();
        C.due("no act() yet", x.trace(0), -1);
        C.due("nothing ran", x.count(6), 0);
        x.body(5);
        x.act(0, 3, 7);
        C.due("no act() runs more bodies", x.count(6), 10);
        C.due("the last of them", x.trace(9), 1);
        for (int i : new int[] {MIN, -1, 10, 11, 23, 24, 25, MAX}) {
            C.due("trace(" + i + ")", x.trace(i), -1);
        }
        x.act(0, 0, 7);
        C.due("the latest act() alone", x.trace(3), -1);
        C.due("its first", x.trace(0), 60);
        C.due("its last", x.trace(2), 1);
        C.due("all of them", x.count(6), 3);
    }

    private static void keepBounds() {
        C.sentence("A SHELF holds nothing (body -1), or a BODY: 1. BAD.");
        HeadReckons x = new HeadReckons();
        C.due("no BODY yet", x.keep(0, 0), -1);
        C.due("nothing on nothing", x.keep(0, -1), 1);
        for (int i = 0; i <= 49; i++) {
            C.due("body " + i + " is none yet", x.keep(5, i), -1);
            x.body(i % 8);
            C.due("body " + i, x.keep(5, i), 1);
            C.due("its KIND", x.taken(5, 0), i % 8);
        }
        for (int body : new int[] {MIN, -2, 50, 51, MAX}) {
            C.due("body " + body, x.keep(5, body), -1);
            C.due("the BODY stays", x.taken(5, 0), 1);
        }
        for (int shelf : new int[] {MIN, -1, 6, 7, MAX}) {
            C.due("shelf " + shelf, x.keep(shelf, 0), -1);
            C.due("shelf " + shelf + ", nothing", x.keep(shelf, -1), -1);
        }
        for (int shelf = 0; shelf <= 5; shelf++) {
            C.due("shelf " + shelf, x.keep(shelf, shelf), 1);
        }
        for (int shelf = 0; shelf <= 5; shelf++) {
            C.due("shelf " + shelf, x.taken(shelf, 0), shelf);
            C.due("nothing", x.keep(shelf, -1), 1);
            C.due("nothing is there", x.taken(shelf, 0), -11);
        }
    }

    private static void rowBounds() {
        C.sentence("A SHELF holds a ROW: 1. BAD (sort, n above 60); -14. of 0 .. 60 elements");
        HeadReckons x = new HeadReckons();
        for (int shelf = 0; shelf <= 5; shelf++) {
            for (int sort = 0; sort <= 4; sort++) {
                for (int n : new int[] {0, 1, 59, 60}) {
                    C.due("row(" + shelf + ", " + sort + ", " + n + ")", x.row(shelf, sort, n), 1);
                    C.due("its last element", x.element(shelf, n - 1), n == 0 ? NONE : 0);
                    C.due("none behind", x.element(shelf, n), NONE);
                }
            }
        }
        HeadReckons y = new HeadReckons();
        y.row(2, 3, 60);
        y.put(2, 59, 7L);
        for (int n : new int[] {61, 62, MAX}) {
            C.due("n " + n, y.row(2, 3, n), -1);
        }
        for (int n : new int[] {-1, -2, MIN}) {
            C.due("n " + n, y.row(2, 3, n), -14);
            C.due("BAD is named ahead: sort 5", y.row(2, 5, n), -1);
            C.due("BAD is named ahead: shelf 6", y.row(6, 3, n), -1);
        }
        for (int sort : new int[] {MIN, -1, 5, 6, MAX}) {
            C.due("sort " + sort, y.row(2, sort, 5), -1);
        }
        for (int shelf : new int[] {MIN, -1, 6, 7, MAX}) {
            C.due("shelf " + shelf, y.row(shelf, 3, 5), -1);
        }
        C.due("the ROW stays", y.element(2, 59), 7);
    }

    private static void noughtAtFirst() {
        C.sentence("SHELVES 0 .. 5 each hold nothing (at first); elements, 0 at first (false)");
        for (int sort = 0; sort <= 4; sort++) {
            HeadReckons x = new HeadReckons();
            for (int shelf = 0; shelf <= 5; shelf++) {
                C.due("nothing at first", x.put(shelf, 0, 1L), -11);
                C.due("nothing at first", x.taken(shelf, 0), -11);
            }
            x.row(sort, sort, 60);
            for (int i = 0; i < 60; i++) {
                C.due("element " + i, x.element(sort, i), 0);
                x.put(sort, i, -1L);
            }
            x.row(sort, sort, 7);
            x.row(sort, sort, 60);
            for (int i = 0; i < 60; i++) {
                C.due("of another ROW, element " + i, x.element(sort, i), 0);
            }
            C.due("the other shelves hold nothing still", x.put(5 - sort, 0, 1L), -11);
        }
    }

    private static void lowestBits() {
        C.sentence("what is put in keeps its lowest bits (a boolean: whether it is not 0; 1 or 0)");
        long[][][] all = {
            {{127, 127}, {128, -128}, {255, -1}, {256, 0}, {-128, -128}, {-129, 127}, {-256, 0}, {Long.MAX_VALUE, -1}, {NONE, 0}},
            {{32767, 32767}, {32768, -32768}, {65535, -1}, {65536, 0}, {-32768, -32768}, {-32769, 32767}, {Long.MAX_VALUE, -1}, {NONE, 0}},
            {{2147483647L, 2147483647L}, {2147483648L, -2147483648L}, {4294967295L, -1}, {4294967296L, 0},
                {-2147483648L, -2147483648L}, {-2147483649L, 2147483647L}, {Long.MAX_VALUE, -1}, {NONE, 0}},
            {{2147483648L, 2147483648L}, {Long.MAX_VALUE, Long.MAX_VALUE}, {NONE + 1, NONE + 1}, {NONE, NONE}, {-1, -1}, {0, 0}},
            {{0, 0}, {1, 1}, {2, 1}, {-1, 1}, {256, 1}, {65536, 1}, {4294967296L, 1}, {Long.MAX_VALUE, 1}, {NONE, 1}}};
        for (int sort = 0; sort <= 4; sort++) {
            HeadReckons x = new HeadReckons();
            x.row(0, sort, 3);
            for (long[] one : all[sort]) {
                C.due("put", x.put(0, 1, one[0]), 1);
                C.due("sort " + sort + " of " + one[0], x.element(0, 1), one[1]);
                C.due("its neighbours", x.element(0, 0) | x.element(0, 2), 0);
            }
        }
    }

    private static void putAndElementBounds() {
        C.sentence("Element i of a ROW becomes v: 1. BAD, -11, -12, -13. Element i; Long.MIN_VALUE: BAD, -11 to -13.");
        HeadReckons x = new HeadReckons();
        for (int shelf : new int[] {MIN, -1, 6, 7, MAX}) {
            C.due("put on shelf " + shelf, x.put(shelf, 0, 1L), -1);
            C.due("put on shelf " + shelf + ", no place", x.put(shelf, -1, 1L), -1);
            C.due("element of shelf " + shelf, x.element(shelf, 0), NONE);
        }
        C.due("nothing is there", x.put(0, 0, 1L), -11);
        C.due("nothing is there, no place", x.put(0, -1, 1L), -11);
        C.due("nothing is there", x.element(0, 0), NONE);
        x.body(0);
        x.keep(0, 0);
        C.due("a BODY", x.put(0, 0, 1L), -12);
        C.due("a BODY, no place", x.put(0, -1, 1L), -12);
        C.due("a BODY", x.element(0, 0), NONE);
        for (int n : new int[] {0, 1, 2, 59, 60}) {
            x.row(0, 3, n);
            for (int i : new int[] {MIN, -2, -1, n, n + 1, 60, 61, MAX}) {
                C.due("put at " + i + " of " + n, x.put(0, i, 1L), -13);
                C.due("element at " + i + " of " + n, x.element(0, i), NONE);
            }
            for (int i = 0; i < n; i++) {
                C.due("put at " + i + " of " + n, x.put(0, i, i + 1), 1);
            }
            C.due("the first", x.element(0, 0), n > 0 ? 1 : NONE);
            C.due("the last", x.element(0, n - 1), n > 0 ? n : NONE);
        }
    }

    private static HeadReckons withRows(int sort, int size, int otherSize) {
        HeadReckons x = new HeadReckons();
        x.row(0, sort, size);
        x.row(1, sort, otherSize);
        for (int i = 0; i < size; i++) {
            x.put(0, i, sort == 4 ? i % 2 : 10 + i);
        }
        return x;
    }

    private static void asTheyAllWereBefore() {
        C.sentence("n elements of a ROW from i on come to another one (or the same) from j on, as they all were before: n.");
        for (int sort = 0; sort <= 4; sort++) {
            for (int i = 0; i <= 6; i++) {
                for (int j = 0; j <= 6; j++) {
                    for (int n = 0; n <= 6; n++) {
                        HeadReckons x = withRows(sort, 5, 5);
                        boolean goes = i + n <= 5 && j + n <= 5;
                        C.due("to itself " + i + " " + j + " " + n, x.shift(0, i, 0, j, n), goes ? n : -13);
                        for (int k = 0; k < 5; k++) {
                            int from = goes && k >= j && k < j + n ? k - j + i : k;
                            C.due("element " + k, x.element(0, k), sort == 4 ? from % 2 : 10 + from);
                        }
                        HeadReckons y = withRows(sort, 5, 6);
                        goes = i + n <= 5 && j + n <= 6;
                        C.due("to another " + i + " " + j + " " + n, y.shift(0, i, 1, j, n), goes ? n : -13);
                        for (int k = 0; k < 6; k++) {
                            boolean came = goes && k >= j && k < j + n;
                            int from = k - j + i;
                            C.due("element " + k, y.element(1, k), !came ? 0 : sort == 4 ? from % 2 : 10 + from);
                        }
                    }
                }
            }
        }
        HeadReckons x = withRows(2, 60, 60);
        C.due("all 60", x.shift(0, 0, 1, 0, 60), 60);
        C.due("the last", x.element(1, 59), 69);
        C.due("61", x.shift(0, 0, 1, 0, 61), -13);
        C.due("none of a ROW of 60, at its end", x.shift(0, 60, 1, 60, 0), 0);
    }

    private static void shiftBounds() {
        C.sentence("BAD, -11 (either), -12 (no ROWS, or of unlike sorts), -13.");
        HeadReckons x = withRows(2, 5, 5);
        x.body(0);
        x.keep(2, 0);
        for (int wrong : new int[] {MIN, -1, 6, 7, MAX}) {
            C.due("shelf " + wrong, x.shift(wrong, 0, 0, 0, 1), -1);
            C.due("other " + wrong, x.shift(0, 0, wrong, 0, 1), -1);
            C.due("BAD is named ahead of -11", x.shift(wrong, 0, 4, 0, 1), -1);
            C.due("BAD is named ahead of -11", x.shift(4, 0, wrong, 0, 1), -1);
        }
        C.due("nothing there", x.shift(4, 0, 0, 0, 1), -11);
        C.due("nothing there", x.shift(0, 0, 4, 0, 1), -11);
        C.due("nothing to nothing", x.shift(4, 0, 4, 0, 1), -11);
        C.due("-11 is named ahead of -12", x.shift(2, 0, 4, 0, 1), -11);
        C.due("-11 is named ahead of -12", x.shift(4, 0, 2, 0, 1), -11);
        C.due("-11 is named ahead of -13", x.shift(4, -1, 0, -1, -1), -11);
        C.due("a BODY", x.shift(2, 0, 0, 0, 1), -12);
        C.due("to a BODY", x.shift(0, 0, 2, 0, 1), -12);
        C.due("a BODY to itself", x.shift(2, 0, 2, 0, 0), -12);
        C.due("-12 is named ahead of -13", x.shift(0, -1, 2, 9, 1), -12);
        for (int sort = 0; sort <= 4; sort++) {
            x.row(3, sort, 5);
            C.due("ints to sort " + sort, x.shift(0, 0, 3, 0, 1), sort == 2 ? 1 : -12);
            C.due("sort " + sort + " to ints", x.shift(3, 0, 0, 0, 1), sort == 2 ? 1 : -12);
            C.due("-12 is named ahead of -13, sort " + sort, x.shift(0, 6, 3, 0, 1), sort == 2 ? -13 : -12);
            C.due("none of them, sort " + sort, x.shift(0, 0, 3, 0, 0), sort == 2 ? 0 : -12);
        }
        int[][] wrong = {{-1, 0, 1}, {0, -1, 1}, {-1, 0, 0}, {0, -1, 0}, {5, 0, 1}, {0, 5, 1}, {6, 0, 0}, {0, 6, 0}, {0, 0, 6},
            {1, 0, 5}, {0, 1, 5}, {0, 0, -1}, {2, 2, -1}, {0, 0, MIN}, {MIN, 0, 1}, {0, MIN, 1}, {MAX, 0, 1}, {0, MAX, 1},
            {0, 0, MAX}, {1, 0, MAX}, {0, 1, MAX}, {MAX, MAX, MAX}, {MIN, MIN, MIN}, {MAX, 0, MIN}};
        for (int[] one : wrong) {
            C.due("from " + one[0] + " to " + one[1] + ", " + one[2], x.shift(0, one[0], 1, one[1], one[2]), -13);
        }
        for (int i = 0; i < 5; i++) {
            C.due("nothing came", x.element(1, i), 0);
        }
    }

    private static void takenBounds() {
        C.sentence("What a SHELF holds, taken for a BODY of KIND k (0 .. 7), or under it: its KIND. BAD, -11, -12.");
        int[] above = {-1, 0, 0, 2, 0, 1, 0, 6};
        HeadReckons x = new HeadReckons();
        for (int kind = 0; kind <= 7; kind++) {
            x.body(kind);
            C.due("keep", x.keep(0, kind), 1);
            for (int k = 0; k <= 7; k++) {
                boolean isUnder = false;
                for (int up = kind; up >= 0; up = above[up]) {
                    isUnder |= up == k;
                }
                C.due("kind " + kind + " taken for " + k, x.taken(0, k), isUnder ? kind : -12);
            }
        }
        for (int wrong : new int[] {MIN, -1, 8, 9, MAX}) {
            C.due("taken(0, " + wrong + ")", x.taken(0, wrong), -1);
            C.due("BAD is named ahead of -11", x.taken(1, wrong), -1);
        }
        for (int wrong : new int[] {MIN, -1, 6, 7, MAX}) {
            C.due("taken(" + wrong + ", 0)", x.taken(wrong, 0), -1);
        }
        for (int k = 0; k <= 7; k++) {
            C.due("nothing, taken for " + k, x.taken(1, k), -11);
            x.row(2, k % 5, k % 2);
            C.due("a ROW, taken for " + k, x.taken(2, k), -12);
        }
    }

    private static void oneThingAtATime() {
        C.sentence("SHELVES each hold nothing, a BODY, or a ROW");
        HeadReckons x = new HeadReckons();
        x.body(3);
        x.row(0, 2, 5);
        x.keep(0, 0);
        C.due("the ROW is gone", x.put(0, 0, 1L), -12);
        C.due("the BODY is there", x.taken(0, 2), 3);
        x.row(0, 2, 0);
        C.due("the BODY is gone", x.taken(0, 2), -12);
        C.due("a ROW of none is there", x.put(0, 0, 1L), -13);
        x.keep(0, -1);
        C.due("the ROW is gone", x.put(0, 0, 1L), -11);
        x.keep(0, 0);
        x.keep(0, -1);
        C.due("the BODY is gone", x.taken(0, 2), -11);
        C.due("it is kept all the same", x.act(0, 2, 7), (7 ^ 0) * 3);
    }

    private static void counts() {
        C.sentence("How many: 0 HEADS, 1 seen asks, 2 bytes, 3 asks on the list, 4 changes, 5 BODIES, 6 bodies that ran. BAD.");
        HeadReckons x = new HeadReckons();
        for (int i = 0; i <= 5; i++) {
            Check.head(x, "l5a2h3t9c6");
        }
        for (int i = 0; i < 40; i++) {
            x.see(70008, 1, 1);
            x.turn(0, 0, 40 + i);
        }
        for (int i = 0; i < 30; i++) {
            x.feed(4, 0);
        }
        for (int i = 0; i < 8; i++) {
            x.tell(70008);
        }
        for (int i = 0; i < 50; i++) {
            x.body(5);
        }
        x.act(49, 3, 1);
        int[] full = {6, 40, 120, 8, 40, 50, 10};
        for (int what = 0; what <= 6; what++) {
            C.due("count(" + what + ") of a new one", new HeadReckons().count(what), 0);
            C.due("count(" + what + ") of a full one", x.count(what), full[what]);
        }
        for (int what : new int[] {MIN, -1, 7, 8, MAX}) {
            C.due("count(" + what + ")", x.count(what), -1);
        }
    }

    public static void main(String[] args) {
        fiftyBodies();
        noSuchBodyOrAct();
        wraps();
        traceBounds();
        keepBounds();
        rowBounds();
        noughtAtFirst();
        lowestBits();
        putAndElementBounds();
        asTheyAllWereBefore();
        shiftBounds();
        takenBounds();
        oneThingAtATime();
        counts();
        C.end();
    }
}
