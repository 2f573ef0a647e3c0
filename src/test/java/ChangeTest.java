/** Promises 29 and 30: changes undone, and done again. */
final class ChangeTest {
    private static final Check C = new Check("ChangeTest");

    private static void backAndOn() {
        HeadReckons x = Check.withHead("l5a2h3t12c3");
        Check.head(x, "l1a1h1t10c4");
        C.due("undo()", x.undo(), -5);
        C.due("redo()", x.redo(), -5);
        x.turn(0, 0, 7);
        x.turn(1, 3, 20);
        x.turn(0, 0, 8);
        C.due("count(4)", x.count(4), 3);
        C.due("undo()", x.undo(), 2);
        C.due("the latest first", x.of(0, 0), 7);
        C.due("undo()", x.undo(), 1);
        C.due("the table", x.of(1, 3), 10);
        C.due("redo()", x.redo(), 1);
        C.due("the table again", x.of(1, 3), 20);
        C.due("count(4)", x.count(4), 2);
        C.due("undo()", x.undo(), 1);
        C.due("undo()", x.undo(), 0);
        C.due("the first number", x.of(0, 0), 5);
        C.due("none", x.undo(), -5);
        C.due("redo()", x.redo(), 2);
        C.due("redo()", x.redo(), 1);
        C.due("redo()", x.redo(), 0);
        C.due("none", x.redo(), -5);
        C.due("as it was", x.of(0, 0), 8);
    }

    private static void anotherCame() {
        HeadReckons x = Check.withHead("l5a2h3t12c3");
        for (int what = 0; what <= 4; what++) {
            x.turn(0, what, 10 + what);
        }
        x.undo();
        x.undo();
        C.due("telling the same is none", x.turn(0, 0, 10), 10);
        C.due("what may not be is none", x.turn(0, 3, 8), -1);
        C.due("still done again", x.redo(), 1);
        C.due("table", x.of(0, 3), 13);
        x.turn(0, 1, 99);
        C.due("another came", x.redo(), -5);
        C.due("count(4)", x.count(4), 5);
        C.due("undo()", x.undo(), 4);
        C.due("back to what it was", x.of(0, 1), 11);
        C.due("capacity was not done again", x.of(0, 4), 3);
        C.due("redo()", x.redo(), 0);
        C.due("the other one", x.of(0, 1), 99);
    }

    private static void fortyAreKept() {
        HeadReckons x = Check.withHead("l0a2h3t12c3");
        for (int v = 1; v <= 45; v++) {
            x.turn(0, 0, v);
            C.due("count(4)", x.count(4), Math.min(40, v));
        }
        for (int left = 39; left >= 0; left--) {
            C.due("undo()", x.undo(), left);
            C.due("of", x.of(0, 0), 5 + left);
        }
        C.due("the first five stay", x.undo(), -5);
        for (int left = 39; left >= 0; left--) {
            C.due("redo()", x.redo(), left);
            C.due("of", x.of(0, 0), 45 - left);
        }
    }

    private static void fortyOfManyHeads() {
        HeadReckons x = Check.withHead("l5a2h3t12c3");
        Check.head(x, "l5a2h3t12c3");
        Check.head(x, "l5a2h3t12c3");
        int[][] was = new int[47][];
        for (int i = 0; i < 47; i++) {
            int head = i % 3;
            int what = i % 5;
            was[i] = new int[] {head, what, x.of(head, what)};
            x.turn(head, what, 20 + i % 7);
        }
        for (int i = 46; i >= 7; i--) {
            int now = x.of(was[i][0], was[i][1]);
            C.due("undo()", x.undo(), i - 7);
            C.due("of change " + i, x.of(was[i][0], was[i][1]), was[i][2]);
            C.due("redo()", x.redo(), 0 + 46 - i);
            C.due("of change " + i, x.of(was[i][0], was[i][1]), now);
            x.undo();
        }
        C.due("the first seven stay", x.undo(), -5);
        C.due("of(0, 0)", x.of(0, 0), 20);
        C.due("of(1, 1)", x.of(1, 1), 21);
    }

    private static void onlyNumbersAreUndone() {
        HeadReckons x = Check.withHead("l5a2h3t12c3");
        x.turn(0, 3, 13);
        Check.head(x, "l1a1h1t9c1");
        x.ask(0, 990099);
        x.tell(70008);
        x.see(70008, 1, 56);
        x.undo();
        C.due("heads stay", x.count(0), 2);
        C.due("counts stay", x.ask(0, 990099), 2);
        C.due("the list stays", x.count(3), 1);
        C.due("what is seen stays", x.count(1), 1);
        C.due("ways go by the number now", x.way(0, Check.pair(13, 2), 0), -2);
        x.redo();
        C.due("and again", x.way(0, Check.pair(13, 2), 0), 5);
    }

    public static void main(String[] args) {
        backAndOn();
        anotherCame();
        fortyAreKept();
        fortyOfManyHeads();
        onlyNumbersAreUndone();
        C.end();
    }
}
