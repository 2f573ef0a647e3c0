/** Promises 2 to 5: the tape, heads, their numbers. */
final class HeadTest {
    private static final Check C = new Check("HeadTest");

    private static void feeds() {
        HeadReckons x = new HeadReckons();
        C.due("feed(0, 1)", x.feed(0, 1), -1);
        C.due("feed(5, 1)", x.feed(5, 1), -1);
        C.due("feed(-1, 1)", x.feed(-1, 1), -1);
        C.due("count(2)", x.count(2), 0);
        C.due("feed(1, -1)", x.feed(1, -1), 1);
        C.due("feed(2, 0)", x.feed(2, 0), 3);
        for (int i = 1; i <= 29; i++) {
            C.due("feed(4, 7)", x.feed(4, 7), 3 + 4 * i);
        }
        C.due("feed(2, 7) at 119", x.feed(2, 7), -3);
        C.due("count(2) stays", x.count(2), 119);
        C.due("feed(1, 7) at 119", x.feed(1, 7), 120);
        C.due("feed(1, 7) at 120", x.feed(1, 7), -3);
        C.due("feed(9, 7) at 120", x.feed(9, 7), -1);
        C.due("choice()", x.choice(), -100);
        C.due("count(2) is empty then", x.count(2), 0);
        C.due("feed(3, 'm+n' and more)", x.feed(3, 'm' | '+' << 8 | 'n' << 16 | 0xCC << 24), 3);
        C.due("the lowest came first", x.choice(), 1);
    }

    private static void heads() {
        HeadReckons x = new HeadReckons();
        C.due("head()", Check.head(x, "l1a23h4t56c7"), 0);
        int[] numbers = {1, 23, 4, 56, 7, 0};
        for (int what = 0; what <= 5; what++) {
            C.due("of(0, " + what + ")", x.of(0, what), numbers[what]);
        }
        C.due("count(2)", x.count(2), 0);
        C.due("least numbers", Check.head(x, "l0a0h0t9c1"), 1);
        C.due("most numbers", Check.head(x, "l99a99h99t99c40"), 2);
        C.due("of(2, 4)", x.of(2, 4), 40);
        C.due("two digits with a nought ahead", Check.head(x, "l05a00h01t09c01"), 3);
        C.due("of(3, 0)", x.of(3, 0), 5);
        C.due("of(3, 3)", x.of(3, 3), 9);
        C.due("head 4", Check.head(x, "l5a5h5t10c5"), 4);
        C.due("head 5", Check.head(x, "l5a5h5t11c5"), 5);
        C.due("head 6", Check.head(x, "l5a5h5t12c5"), -3);
        C.due("the tape stays", x.count(2), 11);
        C.due("heads stay", x.count(0), 6);
        C.due("as a choice it has a fault", x.choice(), -100);
        C.due("heads stay as they were", x.of(5, 3), 11);
    }

    /** With six HEADS no other can come, whatever the tape holds; and the tape stays. */
    private static void fullWhateverTheTapeHolds() {
        HeadReckons x = new HeadReckons();
        for (int i = 0; i < 5; i++) {
            C.due("head", Check.head(x, "l1a2h3t10c4"), i);
        }
        C.due("with five a fault is told", Check.head(x, "l1b"), -102);
        C.due("head 5", Check.head(x, "l1a2h3t10c4"), 5);
        String[] texts = {"", "x", "l", "l5b", "l1a2h3t8c4", "l1a2h3t10c0", "l1a2h3t10c4x", "l1a2h3t10c4", "m"};
        for (String text : texts) {
            Check.feed(x, text);
            C.due("head of " + text + " with six", x.head(), -3);
            C.due("again", x.head(), -3);
            C.due("the tape stays", x.count(2), text.length());
            C.due("so do the heads", x.count(0), 6);
            boolean isName = text.equals("x") || text.equals("m");
            C.due("what stayed, as a choice", x.choice(), isName ? 1 : -100);
        }
    }

    private static void faults() {
        HeadReckons x = new HeadReckons();
        String[] texts = {"", "x", "l", "la", "l0", "l00", "l000", "l1a2h3t9c1x", "l1a2h3t9c1 ", " l1a2h3t9c1",
            "L1a2h3t9c1", "l1h2a3t9c1", "l1a2h3t8c1", "l1a2h3t9c0", "l1a2h3t9c41", "l1a2h3t9c00", "l1a2h3t9",
            "l1a2h3t9c", "l1a2h3t100c1", "l1a2h3t0", "l1a2h3t9c1;", "l1a2h3t9c111", "l-1", "l1a2h3t9c5l1",
            "l1a2h3t8", "l1a2h3t8x", "l1a2h3tx"};
        int[] faults = {0, 0, 1, 1, 2, 3, 3, 10, 10, 0,
            0, 2, 7, 9, 9, 9, 8,
            9, 9, 7, 10, 11, 1, 10,
            7, 7, 7};
        for (int i = 0; i < texts.length; i++) {
            C.due("head of " + texts[i], Check.head(x, texts[i]), -100 - faults[i]);
            C.due("the tape is empty", x.count(2), 0);
        }
        C.due("no head came", x.count(0), 0);
    }

    private static void ofAndTurn() {
        HeadReckons x = Check.withHead("l1a2h3t10c4");
        C.due("of(-1, 0)", x.of(-1, 0), -1);
        C.due("of(1, 0)", x.of(1, 0), -1);
        C.due("of(0, -1)", x.of(0, -1), -1);
        C.due("of(0, 6)", x.of(0, 6), -1);
        int[] least = {0, 0, 0, 9, 1};
        int[] most = {99, 99, 99, 99, 40};
        int[] was = {1, 2, 3, 10, 4};
        for (int what = 0; what <= 4; what++) {
            C.due("turn too low", x.turn(0, what, least[what] - 1), -1);
            C.due("turn too high", x.turn(0, what, most[what] + 1), -1);
            C.due("it stays", x.of(0, what), was[what]);
            C.due("turn to the least", x.turn(0, what, least[what]), was[what]);
            C.due("turn to the most", x.turn(0, what, most[what]), least[what]);
            C.due("of", x.of(0, what), most[what]);
            C.due("turn to the same", x.turn(0, what, most[what]), most[what]);
        }
        C.due("changes", x.count(4), 10);
        C.due("turn(0, 5, 1)", x.turn(0, 5, 1), -1);
        C.due("turn(0, -1, 1)", x.turn(0, -1, 1), -1);
        C.due("turn(1, 0, 1)", x.turn(1, 0, 1), -1);
        C.due("turn(-1, 0, 1)", x.turn(-1, 0, 1), -1);
    }

    private static void learntIsTold() {
        HeadReckons x = Check.withHead("l1a2h3t10c4");
        x.ask(0, 990098);
        x.ask(0, 990098);
        C.due("of(0, 5) at two", x.of(0, 5), 0);
        x.ask(0, 980099);
        C.due("of(0, 5) at three", x.of(0, 5), 1);
    }

    private static void headsBeginUntaught() {
        HeadReckons x = Check.withHead("l1a2h3t10c4");
        for (int i = 0; i < 3; i++) {
            x.ask(0, 990098);
        }
        x.tell(990097);
        C.due("in thought two are learnt", x.taught(0, 3, 1), 2);
        C.due("another head", Check.head(x, "l1a2h3t10c4"), 1);
        C.due("has learnt nothing", x.of(1, 5), 0);
        C.due("nor counted", x.ask(1, 990098), 1);
    }

    public static void main(String[] args) {
        feeds();
        heads();
        fullWhateverTheTapeHolds();
        faults();
        ofAndTurn();
        learntIsTold();
        headsBeginUntaught();
        C.end();
    }
}
