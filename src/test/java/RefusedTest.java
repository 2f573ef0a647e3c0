import java.util.ArrayList;
import java.util.List;

/**
 * "What is answered so changes nothing": each refusal is called on one of two objects that were led the same way,
 * and then both are asked for all that they hold. A look goes only as far as 512 calls let it: one object a look.
 */
final class RefusedTest {
    private static final Check C = new Check("RefusedTest");
    private static final int BAD = -1, NOT = -2, FULL = -3, STATE = -5, VOID = -2000000000;
    private static final int MIN = Integer.MIN_VALUE, MAX = Integer.MAX_VALUE;
    private static final int NEW = 0, BARE = 1, SOME = 2, WHOLE = 3, SCENES = 4;
    private static final int LOOKS = 8, COUNTS_LOOK = 0, TAPE_AS_HEAD = 1, TAPE_AS_CHOICE = 2;
    private static final int[] WRONG_PAIRS = {0, 1, 10000, 70000, 99990000, 100000001, -1, -70008, MIN, MAX};

    private interface Call {
        long on(HeadReckons x);
    }

    /** What of the state a call may change all the same. */
    private enum Spares { NOTHING, TAPE, TRACE }

    private record Refusal(String name, long want, Spares spares, Call call) { }

    private final List<Refusal> refusals = new ArrayList<>();
    private final int scene;
    private final int heads;
    private final int seen;
    private final int bodies;

    private RefusedTest(int scene) {
        this.scene = scene;
        HeadReckons x = led(scene);
        heads = x.count(0);
        seen = x.count(1);
        bodies = x.count(5);
    }

    // ---- how an object is led

    private static HeadReckons led(int scene) {
        HeadReckons x = new HeadReckons();
        switch (scene) {
            case BARE:
                Check.head(x, "l5a2h3t12c3");
                Check.feed(x, "l1a1h1t10c1");
                break;
            case SOME:
                some(x);
                break;
            case WHOLE:
                whole(x);
                break;
            default:
                break;
        }
        return x;
    }

    /** Some of all: changes to be undone and to be done again, pairs asked once to thrice, a list with a NUMBER above 99. */
    private static void some(HeadReckons x) {
        Check.head(x, "l5a2h3t12c3");
        Check.head(x, "l7a1h4t9c1");
        Check.choice(x, "x<y?3;x=y?0;2");
        x.see(120034, 40, 408);
        x.see(120034, 40, 398);
        x.see(130012, 9, 156);
        x.tell(120034);
        x.tell(Check.pair(1234, 56));
        for (int i = 0; i < 6; i++) {
            x.ask(0, Check.pair(20 + i / 3, 30));
            x.ask(1, Check.pair(40 + i / 2, 50));
            x.turn(i % 2, i % 3, 60 + i);
        }
        x.undo();
        x.undo();
        for (int kind = 0; kind <= 7; kind++) {
            x.body(kind);
        }
        x.keep(1, 5);
        for (int sort = 0; sort <= 3; sort++) {
            x.row(2 + sort, sort, sort + 2);
            x.put(2 + sort, 1, -77L);
        }
        x.act(5, 3, 4);
        Check.feed(x, "x%7");
    }

    /** All that has an end is full; all 60 pairs of the first HEAD are counted. */
    private static void whole(HeadReckons x) {
        for (int i = 0; i < 6; i++) {
            Check.head(x, "l" + i + "a2h3t" + (10 + i) + "c3");
        }
        Check.choice(x, "x<y?3;0");
        for (int i = 0; i < 40; i++) {
            x.see(Check.pair(10 + i, 30), 40 + i, i % 3 == 0 ? (10 + i) * 30 : 7 * i);
            x.turn(i % 3, i % 3, 50 + i);
        }
        for (int i = 0; i < 8; i++) {
            x.tell(Check.pair(10 + i, 31));
        }
        for (int i = 0; i < 60; i++) {
            x.ask(0, Check.pair(1 + i, 99));
        }
        for (int i = 0; i < 50; i++) {
            x.body(i % 8);
        }
        x.keep(0, 49);
        for (int sort = 0; sort <= 4; sort++) {
            x.row(1 + sort, sort, sort == 2 ? 60 : 4);
            x.put(1 + sort, 3, -77L);
        }
        x.act(45, 3, 4);
        Check.feed(x, "x<y?3;00" + "-0".repeat(56));
    }

    // ---- how it is looked at

    private static List<Long> look(HeadReckons x, int which) {
        List<Long> all = new ArrayList<>();
        switch (which) {
            case COUNTS_LOOK: lookAtCounts(x, all); break;
            case TAPE_AS_HEAD: lookAtTape(x, all, x.head()); break;
            case TAPE_AS_CHOICE: lookAtTape(x, all, x.choice()); break;
            case 3: lookAtSeen(x, all); break;
            case 4: lookAtTaught(x, all); break;
            case 5: lookAtChanges(x, all); break;
            case 6: lookAtBodies(x, all); break;
            default: lookAtShelves(x, all); break;
        }
        return all;
    }

    private static void lookAtCounts(HeadReckons x, List<Long> all) {
        for (int what = 0; what <= 6; what++) {
            all.add((long) x.count(what));
        }
        for (int i = 0; i <= 10; i++) {
            all.add((long) x.trace(i));
        }
        for (int i = 0; i < 36; i++) {
            all.add((long) x.of(i / 6, i % 6));
        }
    }

    private static void lookAtTape(HeadReckons x, List<Long> all, long answer) {
        all.add(answer);
        for (int i = 0; i < 6; i++) {
            all.add((long) x.of(1, i));
        }
        lookAtChoice(x, all);
    }

    private static void lookAtChoice(HeadReckons x, List<Long> all) {
        for (int a = 1; a <= 9; a++) {
            all.add((long) x.chosen(0, Check.pair(a, 5)));
            all.add((long) x.chosen(0, Check.pair(20 + a, 30)));
        }
    }

    private static void lookAtSeen(HeadReckons x, List<Long> all) {
        for (int i = 0; i < 160; i++) {
            all.add((long) x.seen(i / 4, i % 4));
        }
        all.add((long) x.see(70008, 1, 1));
        all.add((long) x.best(0, 1));
    }

    private static void lookAtTaught(HeadReckons x, List<Long> all) {
        lookAtChoice(x, all);
        for (int n = 1; n <= 9; n++) {
            all.add((long) x.taught(0, n, 0));
        }
        for (int way = 1; way <= 6; way++) {
            all.add((long) x.parts(0, 2 | 1 << way, 0));
            all.add((long) x.parts(0, 2 | 1 << way, 1));
        }
        all.add((long) x.first(0, 1));
        all.add((long) x.tell(70008));
        all.add((long) x.untell());
        for (int i = 0; i < 60; i++) {
            all.add((long) x.ask(0, Check.pair(1 + i, 99)));
        }
        for (int i = 0; i < 30; i++) {
            all.add((long) x.ask(i % 2, Check.pair(20 + i / 2 % 5, 30)));
            all.add((long) x.ask(i % 2, Check.pair(40 + i / 2 % 5, 50)));
        }
    }

    private static void lookAtChanges(HeadReckons x, List<Long> all) {
        for (int i = 0; i < 41; i++) {
            all.add((long) x.undo());
            all.add((long) x.of(i % 2, i % 3));
        }
        for (int i = 0; i < 41; i++) {
            all.add((long) x.redo());
            all.add((long) x.of(i % 2, i % 3));
        }
    }

    private static void lookAtBodies(HeadReckons x, List<Long> all) {
        for (int i = 0; i <= 50; i++) {
            all.add((long) x.act(i, 3, 9));
            all.add((long) x.act(i, 2, 9));
        }
        all.add((long) x.body(3));
    }

    /** What is put in at last tells of what sort a ROW is. */
    private static void lookAtShelves(HeadReckons x, List<Long> all) {
        for (int shelf = 0; shelf <= 5; shelf++) {
            all.add((long) x.taken(shelf, 0));
            for (int i = 0; i <= 6; i++) {
                all.add(x.element(shelf, i));
            }
            all.add(x.element(shelf, 59));
            all.add((long) x.shift(shelf, 0, shelf, 0, 0));
            all.add((long) x.put(shelf, 0, 0x7123456789ABCDEFL));
            all.add(x.element(shelf, 0));
        }
    }

    // ---- what is refused

    private void refused(String name, long want, Call call) {
        refusals.add(new Refusal(name, want, Spares.NOTHING, call));
    }

    private int[] wrongHeads() {
        return new int[] {MIN, -1, heads, 6, MAX};
    }

    private int[] wrongHeadWays() {
        return heads == 0 ? new int[] {MIN, -1, 0, 1, 10, MAX} : new int[] {MIN, -11, -1, 7, 8, 9, 10 * heads, 10 * heads + 6, 66, MAX, MAX - 1};
    }

    private void tapeAndHeads() {
        for (int n : new int[] {MIN, -1, 0, 5, MAX}) {
            refused("feed " + n, BAD, x -> x.feed(n, 0x3B323B31));
        }
        for (int head : wrongHeads()) {
            refused("of head " + head, BAD, x -> x.of(head, 0));
            refused("turn head " + head, BAD, x -> x.turn(head, 0, 9));
            refused("chosen head " + head, BAD, x -> x.chosen(head, 70008));
        }
        int[][] wrong = {{0, -1}, {0, 100}, {1, -1}, {1, 100}, {2, -1}, {2, 100}, {3, 8}, {3, 100}, {4, 0}, {4, 41}, {5, 9}, {-1, 9},
            {MIN, 9}, {MAX, 9}, {0, MIN}, {3, MAX}};
        for (int[] one : wrong) {
            refused("turn " + one[0] + " to " + one[1], BAD, x -> x.turn(0, one[0], one[1]));
            refused("of " + one[1], BAD, x -> x.of(0, one[1] < 6 && one[1] >= 0 ? 6 : one[1]));
        }
        if (scene == WHOLE) {
            for (int n = 1; n <= 4; n++) {
                int more = n;
                refused("feed " + n + " at 120", FULL, x -> x.feed(more, 0x3B323B31));
            }
            refused("head", FULL, HeadReckons::head);
        }
    }

    private void ways() {
        for (int hw : wrongHeadWays()) {
            refused("way by " + hw, BAD, x -> x.way(hw, 70008, 0));
            refused("step by " + hw, VOID, x -> x.step(hw, 70008, 0, 0));
            refused("answer by " + hw, VOID, x -> x.answer(hw, 70008, 3));
            refused("slip by " + hw, BAD, x -> x.slip(hw, 1, 0));
        }
        for (int ab : WRONG_PAIRS) {
            refused("way of " + ab, BAD, x -> x.way(1, ab, 0));
            refused("step of " + ab, VOID, x -> x.step(1, ab, 0, 0));
            refused("chosen of " + ab, BAD, x -> x.chosen(0, ab));
            refused("answer of " + ab, VOID, x -> x.answer(1, ab, 3));
            refused("quickest of " + ab, BAD, x -> x.quickest(0, ab, 9));
            refused("table of " + ab, BAD, x -> x.table(0, ab, 9));
            refused("see of " + ab, BAD, x -> x.see(ab, 9, 9));
            refused("tell of " + ab, BAD, x -> x.tell(ab));
            refused("ask of " + ab, BAD, x -> x.ask(0, ab));
        }
        for (int head : wrongHeads()) {
            refused("quickest by " + head, BAD, x -> x.quickest(head, 70008, 9));
            refused("table by " + head, BAD, x -> x.table(head, 70008, 9));
        }
        for (int wrong : new int[] {MIN, -1, 3, 4, MAX}) {
            refused("way, what " + wrong, BAD, x -> x.way(1, 70008, wrong));
            refused("step " + wrong, VOID, x -> x.step(1, 70008, wrong, 0));
            refused("step, what " + wrong, VOID, x -> x.step(1, 70008, 0, wrong == 3 ? 4 : wrong));
        }
        for (int digits : new int[] {MIN, -1, 0, 100, MAX}) {
            refused("quickest with " + digits, BAD, x -> x.quickest(0, 70008, digits));
        }
        if (heads > 0) {
            refused("way that is NOT", NOT, x -> x.way(0, 99999999, 0));
            refused("step of a way that is NOT", VOID, x -> x.step(0, 99999999, 0, 0));
            refused("answer by a way that is NOT", VOID, x -> x.answer(0, 99999999, 3));
            refused("quickest of none", NOT, x -> x.quickest(0, 99999999, 1));
            refused("table below 0", NOT, x -> x.table(0, 99999999, -1));
        }
    }

    private void seenAsks() {
        for (int wrong : new int[] {MIN, -1, 10000, MAX}) {
            refused("see in " + wrong, BAD, x -> x.see(70008, wrong, 9));
            refused("fits within " + wrong, BAD, x -> x.fits(0, wrong));
        }
        for (int wrong : new int[] {MIN, -1000000000, 1000000000, MAX}) {
            refused("see with " + wrong, BAD, x -> x.see(70008, 9, wrong));
        }
        for (int wrong : new int[] {MIN, -1, seen, 40, MAX}) {
            refused("seen " + wrong, VOID, x -> x.seen(wrong, 0));
            refused("slip of " + wrong, BAD, x -> x.slip(1, wrong, 0));
        }
        for (int wrong : new int[] {MIN, -1, 4, MAX}) {
            refused("seen, what " + wrong, VOID, x -> x.seen(0, wrong));
            refused("best, what " + wrong, BAD, x -> x.best(0, wrong));
            refused("slip, what " + wrong, BAD, x -> x.slip(1, 1, wrong));
        }
        for (int head : wrongHeads()) {
            refused("fits by " + head, BAD, x -> x.fits(head, 9));
            refused("best by " + head, BAD, x -> x.best(head, 0));
            refused("suits by " + head, BAD, x -> x.suits(head));
        }
        for (int wrong : new int[] {MIN, -1, 6, MAX}) {
            refused("asks from shelf " + wrong, BAD, x -> x.asks(wrong, 0, 1));
        }
        for (int wrong : new int[] {MIN, -1, 0, 16, MAX}) {
            refused("asks, " + wrong, BAD, x -> x.asks(4, 0, wrong));
        }
        for (int i : new int[] {MIN, -1, 57, 60, MAX}) {
            refused("no ask from place " + i, scene >= SOME && !isInts(scene, 4) ? -12 : 0, x -> x.asks(4, i, 1));
        }
        if (scene == BARE) {
            refused("fits of none", STATE, x -> x.fits(0, 9));
            refused("best of none", STATE, x -> x.best(0, 0));
            refused("suits of none", STATE, x -> x.suits(0));
        }
        if (scene == WHOLE) {
            refused("see the 41st", FULL, x -> x.see(70008, 9, 9));
            refused("asks from a row of none", -12, x -> x.asks(1, 0, 1));
            refused("asks from a body", -12, x -> x.asks(0, 0, 1));
            refused("asks from a row of noughts", 0, x -> x.asks(3, 0, 15));
        }
        if (scene >= SOME) {
            refused("slip of a right answer", BAD, x -> x.slip(1, 0, 0));
            refused("slip of a way that is NOT", NOT, x -> x.slip(scene == SOME ? 0 : 54, 1, 0));
        }
    }

    private static boolean isInts(int scene, int shelf) {
        return scene == SOME && shelf == 4 || scene == WHOLE && shelf == 3;
    }

    private void asksTold() {
        for (int head : wrongHeads()) {
            refused("parts by " + head, BAD, x -> x.parts(head, 127, 0));
            refused("ask by " + head, BAD, x -> x.ask(head, 70008));
            refused("taught by " + head, BAD, x -> x.taught(head, 5, 0));
            refused("first by " + head, BAD, x -> x.first(head, 0));
        }
        for (int wrong : new int[] {MIN, -1, 128, MAX}) {
            refused("parts of ways " + wrong, BAD, x -> x.parts(0, wrong, 0));
            refused("parts, what " + wrong, BAD, x -> x.parts(0, 127, wrong));
            refused("taught " + wrong, BAD, x -> x.taught(0, wrong, 0));
            refused("taught, what " + wrong, BAD, x -> x.taught(0, 5, wrong));
            refused("first, what " + wrong, BAD, x -> x.first(0, wrong));
        }
        refused("taught none", BAD, x -> x.taught(0, 0, 0));
        refused("taught 51", BAD, x -> x.taught(0, 51, 0));
        if (scene == BARE) {
            refused("parts of none", STATE, x -> x.parts(0, 127, 0));
            refused("taught of none", STATE, x -> x.taught(0, 5, 0));
            refused("first of none", STATE, x -> x.first(0, 0));
        }
        if (scene == SOME) {
            refused("taught a NUMBER above 99", BAD, x -> x.taught(0, 1, 0));
            refused("first with a NUMBER above 99", BAD, x -> x.first(0, 0));
        }
        if (scene >= SOME) {
            refused("parts of no ways", NOT, x -> x.parts(0, 0, 0));
        }
        if (scene == WHOLE) {
            refused("tell the ninth", FULL, x -> x.tell(70008));
            refused("ask the 61st pair", 0, x -> x.ask(0, Check.pair(70, 71)));
        }
        if (heads > 0) {
            refused("ask above 99", 0, x -> x.ask(0, Check.pair(100, 1)));
            refused("ask above 99", 0, x -> x.ask(0, Check.pair(1, 100)));
        }
    }

    private void rootsAndChanges() {
        for (long number : new long[] {Long.MIN_VALUE, -1L, 0L, 1000000000000000000L, Long.MAX_VALUE}) {
            refused("root of " + number, BAD, x -> x.root(number, 2));
            refused("firsts of " + number, BAD, x -> x.firsts(number, 201, 0));
            refused("enough of " + number, BAD, x -> x.enough(number, 2));
        }
        for (int power : new int[] {MIN, 0, 1, 4, 6, MAX}) {
            refused("root by " + power, BAD, x -> x.root(64L, power));
            refused("firsts by " + power, BAD, x -> x.firsts(64L, 100 * power + 1, 0));
            refused("enough by " + power, BAD, x -> x.enough(64L, power));
        }
        refused("firsts by 0", BAD, x -> x.firsts(64L, 200, 0));
        refused("firsts by 3 of 2", BAD, x -> x.firsts(64L, 203, 0));
        refused("firsts, what 2", BAD, x -> x.firsts(64L, 201, 2));
        refused("enough of no power", NOT, x -> x.enough(65L, 2));
        if (scene == NEW || scene == BARE) {
            refused("undo", STATE, HeadReckons::undo);
        }
        if (scene != SOME) {
            refused("redo", STATE, HeadReckons::redo);
        }
    }

    private void bodiesAndShelves() {
        for (int wrong : new int[] {MIN, -1, 8, MAX}) {
            refused("body of kind " + wrong, BAD, x -> x.body(wrong));
            refused("count of " + wrong, BAD, x -> x.count(wrong));
            refused("taken for " + wrong, BAD, x -> x.taken(1, wrong));
        }
        for (int wrong : new int[] {MIN, -1, 10, 24, MAX}) {
            refused("trace of " + wrong, BAD, x -> x.trace(wrong));
        }
        for (int wrong : new int[] {MIN, -1, bodies, 50, MAX}) {
            refusals.add(new Refusal("act of body " + wrong, 0, Spares.TRACE, x -> x.act(wrong, 0, 9)));
            refused("keep body " + wrong, BAD, x -> x.keep(5, wrong == -1 ? -2 : wrong));
        }
        for (int wrong : new int[] {MIN, -1, 4, MAX}) {
            refusals.add(new Refusal("act " + wrong, 0, Spares.TRACE, x -> x.act(0, wrong, 9)));
        }
        for (int shelf : new int[] {MIN, -1, 6, MAX}) {
            refused("keep on " + shelf, BAD, x -> x.keep(shelf, -1));
            refused("row on " + shelf, BAD, x -> x.row(shelf, 2, 5));
            refused("put on " + shelf, BAD, x -> x.put(shelf, 0, 5L));
            refused("element of " + shelf, Long.MIN_VALUE, x -> x.element(shelf, 0));
            refused("shift from " + shelf, BAD, x -> x.shift(shelf, 0, 4, 0, 1));
            refused("shift to " + shelf, BAD, x -> x.shift(4, 0, shelf, 0, 1));
            refused("taken of " + shelf, BAD, x -> x.taken(shelf, 0));
        }
        for (int shelf = 0; shelf <= 5; shelf++) {
            int on = shelf;
            refused("row of sort 5 on " + on, BAD, x -> x.row(on, 5, 5));
            refused("row of sort -1 on " + on, BAD, x -> x.row(on, -1, 5));
            refused("row of 61 on " + on, BAD, x -> x.row(on, 2, 61));
            refused("row of -1 on " + on, -14, x -> x.row(on, 2, -1));
            refused("row of the least on " + on, -14, x -> x.row(on, 2, MIN));
            refused("put ahead on " + on, rowRefusal(on), x -> x.put(on, -1, 5L));
            refused("put behind on " + on, rowRefusal(on), x -> x.put(on, 60, 5L));
            refused("element ahead on " + on, Long.MIN_VALUE, x -> x.element(on, -1));
            refused("shift of -1 on " + on, rowRefusal(on), x -> x.shift(on, 0, on, 0, -1));
            refused("shift of 61 on " + on, rowRefusal(on), x -> x.shift(on, 0, on, 0, 61));
            refused("shift from ahead on " + on, rowRefusal(on), x -> x.shift(on, -1, on, 0, 1));
            refused("taken for another on " + on, holdsNothing(on) ? -11 : -12, x -> x.taken(on, 4));
        }
        if (scene >= SOME) {
            refused("shift to another sort", -12, x -> x.shift(2, 0, 3, 0, 1));
            refused("shift to a body", -12, x -> x.shift(2, 0, scene == SOME ? 1 : 0, 0, 1));
            refused("too many to another", -13, x -> x.shift(4, 0, 4, 1, 4));
        }
        if (scene == SOME) {
            refused("shift to nothing", -11, x -> x.shift(2, 0, 0, 0, 1));
        }
        if (scene == WHOLE) {
            refused("the 51st body", FULL, x -> x.body(0));
        }
    }

    private boolean holdsNothing(int shelf) {
        return scene == NEW || scene == BARE || scene == SOME && shelf == 0;
    }

    private int rowRefusal(int shelf) {
        boolean holdsBody = scene == SOME && shelf == 1 || scene == WHOLE && shelf == 0;
        return holdsNothing(shelf) ? -11 : holdsBody ? -12 : -13;
    }

    private void faults() {
        for (String text : new String[] {"q", "l5a2h3t12c3q", "l5a2h3t8c3", "l5a2", "2;", "1?2?3", "m<n<x", "(((((((", "12345"}) {
            refusals.add(new Refusal("choice of " + text, -1, Spares.TAPE, x -> Check.choice(emptied(x), text) <= -100 ? -1 : 1));
            long want = scene == WHOLE ? FULL : -1;
            refusals.add(new Refusal("head of " + text, want, Spares.TAPE, x -> {
                int answer = Check.head(emptied(x), text);
                return answer <= -100 ? -1 : answer;
            }));
        }
    }

    /** The tape is empty then, and the choice stays: a fault; or, of 120 bytes, a text that chooses alike. */
    private static HeadReckons emptied(HeadReckons x) {
        x.feed(1, ' ');
        x.choice();
        return x;
    }

    /** What only looks changes nothing, either. */
    private void looksOnly() {
        if (heads == 0) {
            return;
        }
        int most = scene == BARE ? 1 : 6;
        for (int way = 0; way <= most; way++) {
            int hw = way;
            refused("way " + way, led(scene).way(hw, 200030, 0), x -> x.way(hw, 200030, 0));
            refused("step of way " + way, led(scene).step(hw, 200030, 0, 1), x -> x.step(hw, 200030, 0, 1));
            refused("answer by way " + way, led(scene).answer(hw, 200030, 3), x -> x.answer(hw, 200030, 3));
            refused("slip by way " + way, led(scene).slip(hw, 1, 1), x -> x.slip(hw, 1, 1));
        }
        refused("chosen", led(scene).chosen(0, 200030), x -> x.chosen(0, 200030));
        refused("quickest", led(scene).quickest(0, 200030, 9), x -> x.quickest(0, 200030, 9));
        refused("table", led(scene).table(0, 200030, 5), x -> x.table(0, 200030, 5));
        refused("fits", led(scene).fits(0, 50), x -> x.fits(0, 50));
        refused("best", led(scene).best(0, 0), x -> x.best(0, 0));
        refused("suits", led(scene).suits(0), x -> x.suits(0));
        refused("parts", led(scene).parts(0, 127, 0), x -> x.parts(0, 127, 0));
        refused("taught", led(scene).taught(0, 50, 1), x -> x.taught(0, 50, 1));
        refused("first", led(scene).first(0, 0), x -> x.first(0, 0));
        refused("root", 8, x -> x.root(64L, 2));
        refused("firsts", 1, x -> x.firsts(64L, 201, 0));
        refused("enough", 1, x -> x.enough(64L, 2));
        refused("of", 3, x -> x.of(0, 4));
        refused("turn to the same", 3, x -> x.turn(0, 4, 3));
        refused("shift of none", led(scene).shift(2, 0, 2, 0, 0), x -> x.shift(2, 0, 2, 0, 0));
        refused("count", 0, x -> x.count(0) - heads);
    }

    // ---- side by side

    private boolean isSpared(Refusal refusal, int look) {
        boolean ofTape = look == TAPE_AS_HEAD || look == TAPE_AS_CHOICE || look == COUNTS_LOOK;
        return refusal.spares() == Spares.TAPE && ofTape || refusal.spares() == Spares.TRACE && look == COUNTS_LOOK;
    }

    private void compare() {
        for (int look = 0; look < LOOKS; look++) {
            List<Long> untouched = look(led(scene), look);
            for (Refusal refusal : refusals) {
                if (isSpared(refusal, look)) {
                    continue;
                }
                HeadReckons x = led(scene);
                C.due("scene " + scene + ", " + refusal.name(), refusal.call().on(x), refusal.want());
                C.that("scene " + scene + ", look " + look + ": " + refusal.name() + " changes nothing",
                        look(x, look).equals(untouched));
            }
        }
    }

    private void run(String words) {
        C.sentence(words);
        compare();
        refusals.clear();
    }

    public static void main(String[] args) {
        for (int scene = 0; scene < SCENES; scene++) {
            RefusedTest test = new RefusedTest(scene);
            test.tapeAndHeads();
            test.run("What is answered so changes nothing: the tape, heads");
            test.ways();
            test.run("What is answered so changes nothing: ways");
            test.seenAsks();
            test.run("What is answered so changes nothing: what is seen");
            test.asksTold();
            test.run("What is answered so changes nothing: asks told, teaching");
            test.rootsAndChanges();
            test.run("What is answered so changes nothing: roots, changes");
            test.bodiesAndShelves();
            test.run("What is answered so changes nothing: acts, shelves");
            test.faults();
            test.run("-100 less its FAULT; THE TAPE is empty then: nothing else is");
            test.looksOnly();
            if (!test.refusals.isEmpty()) {
                test.run("(in thought): what only looks changes nothing");
            }
        }
        C.end();
    }
}
