/** Edges of promises 26 to 30: whole roots, roots by firsts, firsts that are enough, changes undone and done again. */
final class EdgeRootsTest {
    private static final Check C = new Check("EdgeRootsTest");
    private static final int MIN = Integer.MIN_VALUE, MAX = Integer.MAX_VALUE;
    private static final long MOST = 999999999999999999L;
    private static final int[] POWERS = {2, 3, 5};
    private static final int[] WRONG_POWERS = {MIN, -2, -1, 0, 1, 4, 6, 7, 8, 20, 200, MAX};
    private static final long[] WRONG_NUMBERS = {Long.MIN_VALUE, -1000000000000000000L, -4L, -1L, 0L, MOST + 1, MOST + 2, Long.MAX_VALUE};

    private static void rootBounds() {
        C.sentence("ROOTS: of a number N (a long, 1 .. 999999999999999999) by a power k (2, 3, 5)");
        for (int power : POWERS) {
            HeadReckons x = new HeadReckons();
            C.due("root of 1", x.root(1, power), 1);
            C.due("root of 2", x.root(2, power), 0);
            C.due("root of the greatest", x.root(MOST, power), 0);
            C.due("root of the greatest but one", x.root(MOST - 1, power), 0);
            C.due("enough of 1", x.enough(1, power), 1);
            C.due("enough of the greatest", x.enough(MOST, power), -2);
            C.due("firsts of 1", x.firsts(1, 100 * power + 1, 0), 1);
            C.due("firsts of the greatest", x.firsts(MOST, 100 * power + 18, 0), 0);
            for (long number : WRONG_NUMBERS) {
                C.due("root of " + number, x.root(number, power), -1);
                C.due("enough of " + number, x.enough(number, power), -1);
                C.due("firsts of " + number, x.firsts(number, 100 * power + 1, 0), -1);
                C.due("the least of " + number, x.firsts(number, 100 * power + 1, 1), -1);
            }
        }
        HeadReckons x = new HeadReckons();
        for (int power : WRONG_POWERS) {
            C.due("root by " + power, x.root(64, power), -1);
            C.due("enough by " + power, x.enough(64, power), -1);
            C.due("enough by " + power + " of no power", x.enough(63, power), -1);
        }
    }

    private static void greatestRoots() {
        C.sentence("The whole root of N by a power (2, 3, 5); 0: none.");
        long[] most = {999999999L, 999999L, 3981L};
        for (int i = 0; i < 3; i++) {
            for (long r = most[i]; r > most[i] - 30; r--) {
                HeadReckons x = new HeadReckons();
                long n = Check.raised(r, POWERS[i]);
                C.due("root of " + n, x.root(n, POWERS[i]), r);
                C.due("root of one more", x.root(n + 1, POWERS[i]), 0);
                C.due("root of one less", x.root(n - 1, POWERS[i]), 0);
            }
            for (long r = 2; r <= 30; r++) {
                HeadReckons x = new HeadReckons();
                long n = Check.raised(r, POWERS[i]);
                C.due("root of " + n, x.root(n, POWERS[i]), r);
                C.due("root of one more", x.root(n + 1, POWERS[i]), 0);
                C.due("root of one less", x.root(n - 1, POWERS[i]), 0);
            }
            C.that("the next one's power is above the greatest N", Check.raised(most[i] + 1, POWERS[i]) > MOST);
        }
        HeadReckons x = new HeadReckons();
        C.due("a square is no cube", x.root(4, 3), 0);
        C.due("64 is both", x.root(64, 2) * 10 + x.root(64, 3), 84);
        C.due("a million millions", x.root(1000000000000L, 2), 1000000);
    }

    private static void firstsBounds() {
        C.sentence("pf: 100 times the power, and f (SIZE of N at most); its first f figures (1 .. 18). BAD.");
        long ten = 1;
        for (int size = 1; size <= 18; size++) {
            for (long number : new long[] {ten, 10 * ten - 1}) {
                for (int power : POWERS) {
                    HeadReckons x = new HeadReckons();
                    for (int f = 0; f <= 19; f++) {
                        boolean may = f >= 1 && f <= size;
                        C.that("f " + f + " of " + number, may == x.firsts(number, 100 * power + f, 0) >= 0);
                        C.that("the least", may == x.firsts(number, 100 * power + f, 1) >= 0);
                    }
                    C.due("f 99", x.firsts(number, 100 * power + 99, 0), -1);
                }
            }
            ten *= 10;
        }
        HeadReckons x = new HeadReckons();
        for (int pf : new int[] {MIN, -502, -201, -1, 0, 1, 2, 99, 100, 101, 199, 200, 300, 400, 401, 499, 500, 600, 601, 701, 1002, MAX}) {
            C.due("pf " + pf, x.firsts(121, pf, 0), -1);
            C.due("pf " + pf, x.firsts(121, pf, 1), -1);
        }
        for (int what : new int[] {MIN, -1, 2, 3, MAX}) {
            C.due("what " + what, x.firsts(121, 201, what), -1);
        }
    }

    private static void allThatBeginAndEndSo() {
        C.sentence("BY FIRSTS: all r above 0 whose powers have as many figures as N and its first f figures and its last figure: how many, the least");
        for (int number = 1; number <= 1300; number++) {
            HeadReckons x = new HeadReckons();
            String figures = String.valueOf(number);
            for (int power : POWERS) {
                for (int f = 1; f <= figures.length(); f++) {
                    int many = 0;
                    int least = 0;
                    for (int r = 100; r >= 1; r--) {
                        String raised = String.valueOf(Check.raised(r, power));
                        if (raised.length() == figures.length() && raised.startsWith(figures.substring(0, f))
                                && raised.charAt(raised.length() - 1) == figures.charAt(figures.length() - 1)) {
                            many++;
                            least = r;
                        }
                    }
                    C.due("how many of " + number + ", " + power + ", " + f, x.firsts(number, 100 * power + f, 0), many);
                    C.due("the least of " + number + ", " + power + ", " + f, x.firsts(number, 100 * power + f, 1), least);
                }
            }
        }
    }

    private static void allOf18Figures() {
        C.sentence("how many (what 0), the least root (1; 0: none), of 18 figures");
        HeadReckons x = new HeadReckons();
        C.due("1 .. 0: tens from 316227770 to 447213590", x.firsts(100000000000000000L, 201, 0), 13098583);
        C.due("the least", x.firsts(100000000000000000L, 201, 1), 316227770);
        C.due("9 .. 9: 948683303 to 999999993, and 948683307 to 999999997", x.firsts(MOST, 201, 0), 10263340);
        C.due("the least", x.firsts(MOST, 201, 1), 948683303);
        for (int power : new int[] {3, 5}) {
            for (long number : new long[] {MOST, 100000000000000000L, 555555555555555555L, 199999999999999991L}) {
                for (int f = 1; f <= 4; f++) {
                    String figures = String.valueOf(number);
                    int many = 0;
                    int least = 0;
                    for (int r = power == 3 ? 999999 : 3981; r >= 1; r--) {
                        long n = Check.raised(r, power);
                        if (n % 10 == number % 10 && n >= 100000000000000000L && String.valueOf(n).startsWith(figures.substring(0, f))) {
                            many++;
                            least = r;
                        }
                    }
                    C.due("how many of " + number + ", " + power + ", " + f, x.firsts(number, 100 * power + f, 0), many);
                    C.due("the least of " + number + ", " + power + ", " + f, x.firsts(number, 100 * power + f, 1), least);
                }
            }
        }
        C.due("none by 18 figures", x.firsts(MOST, 218, 0), 0);
        C.due("the least is 0", x.firsts(MOST, 218, 1), 0);
        C.due("one by 18 figures", x.firsts(999999998000000001L, 218, 0), 1);
        C.due("the greatest root", x.firsts(999999998000000001L, 218, 1), 999999999);
        C.due("none ends with 2", x.firsts(222222222222222222L, 201, 0), 0);
        C.due("the least is 0", x.firsts(222222222222222222L, 201, 1), 0);
    }

    private static void enoughFirsts() {
        C.sentence("ENOUGH firsts of N, which is a whole power. BAD; NOT: it is not. The least f by which there is one alone.");
        for (int power : POWERS) {
            for (int r = 1; r <= 1100 && Check.raised(r, power) < 2000000000L; r++) {
                HeadReckons x = new HeadReckons();
                long number = Check.raised(r, power);
                int f = x.enough(number, power);
                C.due("one alone by " + f + " of " + number, x.firsts(number, 100 * power + f, 0), 1);
                C.due("it is the root", x.firsts(number, 100 * power + f, 1), r);
                C.that("more than one by one less", f == 1 || x.firsts(number, 100 * power + f - 1, 0) > 1);
                C.due("one more is no power", x.enough(number + 1, power), -2);
                C.due("one less is none", number == 1 ? -2 : x.enough(number - 1, power), -2);
            }
        }
        HeadReckons x = new HeadReckons();
        C.due("1", x.enough(1, 2), 1);
        C.due("1681: 1521 ends so, too", x.enough(1681, 2), 2);
        C.due("999999999 squared", x.enough(999999998000000001L, 2), 8);
        C.due("8 squared, by 3", x.enough(64, 3), 1);
        C.due("8 squared, by 5", x.enough(64, 5), -2);
    }

    private static HeadReckons turned(int changes) {
        HeadReckons x = Check.withHead("l0a2h3t9c6");
        for (int v = 1; v <= changes; v++) {
            x.turn(0, 0, v);
        }
        return x;
    }

    private static void undoneLatestFirst() {
        C.sentence("UNDONE: how many may still be. STATE: none. The latest first");
        for (int changes : new int[] {0, 1, 2, 39, 40}) {
            HeadReckons x = turned(changes);
            C.due("count(4)", x.count(4), changes);
            for (int left = changes - 1; left >= 0; left--) {
                C.due("undo() of " + changes, x.undo(), left);
                C.due("count(4)", x.count(4), left);
                C.due("the number", x.of(0, 0), left);
            }
            C.due("none", x.undo(), -5);
            C.due("none still", x.undo(), -5);
            C.due("the first number", x.of(0, 0), 0);
        }
    }

    private static void doneAgain() {
        C.sentence("DONE AGAIN: how many may still be. STATE: none.");
        for (int changes : new int[] {0, 1, 2, 39, 40}) {
            for (int undone : new int[] {0, 1, changes}) {
                HeadReckons x = turned(changes);
                for (int i = 0; i < undone && i < changes; i++) {
                    x.undo();
                }
                int standing = changes - Math.min(undone, changes);
                for (int left = changes - standing - 1; left >= 0; left--) {
                    C.due("redo() of " + changes, x.redo(), left);
                    C.due("count(4)", x.count(4), changes - left);
                    C.due("the number", x.of(0, 0), changes - left);
                }
                C.due("none", x.redo(), -5);
                C.due("none still", x.redo(), -5);
                C.due("the last number", x.of(0, 0), changes);
            }
        }
    }

    private static void noOtherBehind() {
        C.sentence("DONE AGAIN (as long as no other came behind); telling the same number is none");
        HeadReckons x = turned(5);
        x.undo();
        x.undo();
        C.due("the same number", x.turn(0, 0, 3), 3);
        C.due("refused", x.turn(0, 0, 100), -1);
        C.due("refused", x.turn(0, 3, 8), -1);
        C.due("refused", x.turn(1, 0, 1), -1);
        C.due("they are none", x.count(4), 3);
        C.due("done again", x.redo(), 1);
        C.due("the number", x.of(0, 0), 4);
        C.due("another", x.turn(0, 1, 7), 2);
        C.due("came behind", x.redo(), -5);
        C.due("five stand", x.count(4), 5);
        C.due("the other is undone", x.undo(), 4);
        C.due("it was 2", x.of(0, 1), 2);
        C.due("and done again", x.redo(), 0);
        C.due("it is 7", x.of(0, 1), 7);
        HeadReckons y = turned(1);
        y.undo();
        C.due("another, to the same number", y.turn(0, 0, 1), 0);
        C.due("one stands", y.count(4), 1);
        C.due("none to be done again", y.redo(), -5);
    }

    private static void fortyKept() {
        C.sentence("40 at most are kept.");
        for (int changes = 38; changes <= 99; changes++) {
            HeadReckons x = turned(changes);
            int kept = Math.min(40, changes);
            C.due("count(4) of " + changes, x.count(4), kept);
            for (int left = kept - 1; left >= 0; left--) {
                C.due("undo()", x.undo(), left);
            }
            C.due("no more", x.undo(), -5);
            C.due("the oldest stay", x.of(0, 0), changes - kept);
            C.due("another clears them", x.turn(0, 0, 99), changes - kept);
            C.due("one stands", x.count(4), 1);
            C.due("none behind", x.redo(), -5);
        }
        fortyOfAllNumbers();
        HeadReckons x = turned(40);
        x.undo();
        x.turn(0, 0, 99);
        C.due("39 and another", x.count(4), 40);
        for (int left = 39; left >= 0; left--) {
            C.due("undo()", x.undo(), left);
        }
        C.due("none was forgotten", x.of(0, 0), 0);
    }

    /** 47 changes, each of another HEAD and number than the one ahead: the 40 latest go back, and on again. */
    private static void fortyOfAllNumbers() {
        HeadReckons x = new HeadReckons();
        for (int head = 0; head <= 3; head++) {
            Check.head(x, "l5a5h5t15c5");
        }
        int[] was = new int[47];
        for (int i = 0; i < 47; i++) {
            was[i] = x.turn(i % 4, i % 5, 16 + i % 23);
        }
        for (int i = 46; i >= 7; i--) {
            C.due("undo() of change " + i, x.undo(), i - 7);
            C.due("what it was", x.of(i % 4, i % 5), was[i]);
        }
        C.due("no more", x.undo(), -5);
        for (int i = 7; i < 47; i++) {
            C.due("redo() of change " + i, x.redo(), 46 - i);
            C.due("what it became", x.of(i % 4, i % 5), 16 + i % 23);
        }
        C.due("no more", x.redo(), -5);
    }

    private static void ofAllNumbers() {
        C.sentence("CHANGES (l, a, h, TABLE, CAPACITY of HEADS)");
        HeadReckons x = new HeadReckons();
        for (int head = 0; head <= 5; head++) {
            Check.head(x, "l5a5h5t15c5");
        }
        int changes = 0;
        for (int head = 0; head <= 5; head++) {
            for (int what = 0; what <= 4; what++) {
                x.turn(head, what, 20 + changes % 19);
                changes++;
                C.due("count(4)", x.count(4), changes);
            }
        }
        for (int head = 5; head >= 0; head--) {
            for (int what = 4; what >= 0; what--) {
                changes--;
                C.due("undo()", x.undo(), changes);
                C.due("of(" + head + ", " + what + ")", x.of(head, what), what == 3 ? 15 : 5);
                C.due("the one ahead of it stands", x.of(0, 0), changes > 0 ? 20 : 5);
            }
        }
    }

    public static void main(String[] args) {
        rootBounds();
        greatestRoots();
        firstsBounds();
        allThatBeginAndEndSo();
        allOf18Figures();
        enoughFirsts();
        undoneLatestFirst();
        doneAgain();
        noOtherBehind();
        fortyKept();
        ofAllNumbers();
        C.end();
    }
}
