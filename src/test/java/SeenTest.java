/** Promises 13 to 19: what is seen, asks from rows, what fits, which slip, what suits. */
final class SeenTest {
    private static final Check C = new Check("SeenTest");
    private static final int VOID = -2000000000;

    private static void sees() {
        HeadReckons x = new HeadReckons();
        C.due("see", x.see(Check.pair(12, 34), 40, 408), 0);
        C.due("least", x.see(10001, 0, -999999999), 1);
        C.due("most", x.see(99999999, 9999, 999999999), 2);
        int[][] wrong = {{0, 1, 1}, {10000, 1, 1}, {1, 1, 1}, {100000001, 1, 1}, {-10001, 1, 1}, {10001, -1, 1},
            {10001, 10000, 1}, {10001, 1, 1000000000}, {10001, 1, -1000000000}, {10001, 1, Integer.MIN_VALUE}};
        for (int[] w : wrong) {
            C.due("see of " + java.util.Arrays.toString(w), x.see(w[0], w[1], w[2]), -1);
        }
        C.due("count(1)", x.count(1), 3);
        int[][] all = {{12, 34, 40, 0}, {1, 1, 0, -1000000000}, {9999, 9999, 9999, 999999999 - 99980001}};
        for (int ask = 0; ask < 3; ask++) {
            for (int what = 0; what < 4; what++) {
                C.due("seen(" + ask + ", " + what + ")", x.seen(ask, what), all[ask][what]);
            }
        }
        C.due("seen(3, 0)", x.seen(3, 0), VOID);
        C.due("seen(-1, 0)", x.seen(-1, 0), VOID);
        C.due("seen(0, 4)", x.seen(0, 4), VOID);
        C.due("seen(0, -1)", x.seen(0, -1), VOID);
        for (int i = 3; i < 40; i++) {
            C.due("see", x.see(10001, 1, 1), i);
        }
        C.due("the 41st", x.see(10001, 1, 1), -3);
        C.due("BAD ahead of FULL", x.see(10001, -1, 1), -1);
        C.due("count(1)", x.count(1), 40);
    }

    private static void put(HeadReckons x, int shelf, int i, int... values) {
        for (int k = 0; k < values.length; k++) {
            C.due("put", x.put(shelf, i + k, values[k]), 1);
        }
    }

    private static void asksFromRows() {
        HeadReckons x = new HeadReckons();
        x.row(2, 2, 15);
        put(x, 2, 0, 5, 12, 34, 40, 408, 7, 8, 9, 56, 3, 3, 2, 9, 1, 1);
        C.due("from place 1 on", x.asks(2, 1, 2), 2);
        C.due("seen(0, 1)", x.seen(0, 1), 34);
        C.due("seen(1, 0)", x.seen(1, 0), 7);
        C.due("seen(1, 2)", x.seen(1, 2), 9);
        C.due("it ends within a four", x.asks(2, 5, 15), 2);
        C.due("count(1)", x.count(1), 4);
        C.due("exactly to the end", x.asks(2, 11, 2), 1);
        C.due("one place further", x.asks(2, 12, 1), 0);
        C.due("behind the end", x.asks(2, 15, 1), 0);
        C.due("far behind", x.asks(2, Integer.MAX_VALUE, 15), 0);
        C.due("ahead of it", x.asks(2, -1, 15), 0);
        C.due("far ahead", x.asks(2, Integer.MIN_VALUE, 15), 0);
        C.due("a missing row", x.asks(3, 0, 1), 0);
        C.due("n 0", x.asks(2, 1, 0), -1);
        C.due("n 16", x.asks(2, 1, 16), -1);
        C.due("n 16 of a missing row", x.asks(3, 1, 16), -1);
        C.due("shelf 6", x.asks(6, 1, 1), -1);
        C.due("shelf -1", x.asks(-1, 1, 1), -1);
        for (int sort = 0; sort <= 4; sort++) {
            x.row(4, sort, 8);
            C.due("a row of sort " + sort, x.asks(4, 0, 1), sort == 2 ? 0 : -12);
        }
        x.body(0);
        x.keep(4, 0);
        C.due("a body", x.asks(4, 0, 1), -12);
        C.due("nothing more was seen", x.count(1), 5);
    }

    private static void asksThatAreNotSo() {
        int[][] fours = {{0, 1, 1, 1}, {1, 0, 1, 1}, {10000, 1, 1, 1}, {1, 10000, 1, 1}, {-1, 1, 1, 1}, {1, 1, -1, 1},
            {1, 1, 10000, 1}, {1, 1, 1, 1000000000}, {1, 1, 1, -1000000000}};
        for (int[] four : fours) {
            HeadReckons x = new HeadReckons();
            x.row(0, 2, 12);
            put(x, 0, 0, 9999, 9999, 9999, -999999999);
            put(x, 0, 4, four);
            put(x, 0, 8, 2, 3, 4, 6);
            C.due("one is not so: " + java.util.Arrays.toString(four), x.asks(0, 0, 3), 1);
            C.due("those ahead came", x.count(1), 1);
            C.due("those behind go by themselves", x.asks(0, 8, 3), 1);
        }
        HeadReckons x = new HeadReckons();
        x.row(0, 2, 60);
        for (int i = 0; i < 60; i += 4) {
            put(x, 0, i, 2, 3, 4, 6);
        }
        C.due("15", x.asks(0, 0, 15), 15);
        C.due("30", x.asks(0, 0, 15), 15);
        C.due("it is full at 40", x.asks(0, 0, 15), 10);
        C.due("none", x.asks(0, 0, 15), 0);
    }

    private static void fits() {
        HeadReckons x = Check.withHead("l5a2h3t12c3");
        C.due("fits of nothing", x.fits(0, 5), -5);
        C.due("fits(1, 5)", x.fits(1, 5), -1);
        x.see(Check.pair(12, 34), 38, 408);
        C.due("LEFT takes 38 alone", x.fits(0, 0), 1 << 1);
        C.due("CROSSED 37", x.fits(0, 1), 1 << 1 | 1 << 3);
        C.due("RIGHT and TURNED 51", x.fits(0, 13), 1 << 1 | 1 << 2 | 1 << 3 | 1 << 6);
        C.due("SPLIT 58", x.fits(0, 20), 1 << 1 | 1 << 2 | 1 << 3 | 1 << 5 | 1 << 6);
        C.due("SQUARED 91", x.fits(0, 53), 126);
        C.due("SQUARED not in 52", x.fits(0, 52), 126 - 16);
        C.due("fits(0, -1)", x.fits(0, -1), -1);
        C.due("fits(0, 10000)", x.fits(0, 10000), -1);
        x.see(Check.pair(12, 11), 38, 132);
        C.due("SQUARED is NOT for one, SPLIT too", x.fits(0, 9999), 1 << 1 | 1 << 2 | 1 << 3 | 1 << 6);
        x.see(Check.pair(12, 34), 38, 409);
        C.due("by 1 more no LOOK of 12 and 34 slips", x.fits(0, 9999), 0);
    }

    private static void fitsBySlips() {
        HeadReckons x = Check.withHead("l5a2h3t12c3");
        x.see(Check.pair(12, 34), 38, 408 + 20);
        C.due("20 more: the LOOK of 2 and 30; RIGHT has it, CROSSED too", x.fits(0, 9999), 1 << 1 | 1 << 2 | 1 << 3 | 1 << 4 | 1 << 5 | 1 << 6);
        HeadReckons less = Check.withHead("l5a2h3t12c3");
        less.see(Check.pair(12, 12), 5, 144 - 12);
        C.due("KNOWN slips by 12", less.fits(0, 0), 1);
    }

    private static void best() {
        HeadReckons x = Check.withHead("l5a2h3t12c3");
        C.due("best of nothing", x.best(0, 0), -5);
        C.due("best(1, 0)", x.best(1, 0), -1);
        x.see(Check.pair(12, 34), 50, 408);
        C.due("RIGHT takes 51", x.best(0, 0), 2);
        C.due("by 1", x.best(0, 1), 1);
        C.due("best(0, 2)", x.best(0, 2), -1);
        C.due("best(0, -1)", x.best(0, -1), -1);
        x.see(Check.pair(12, 12), 5, 144);
        C.due("KNOWN is left out: SPLIT, 58 and 36", x.best(0, 0), 5);
        C.due("by 8 and 31", x.best(0, 1), 39);
        Check.choice(x, "m=n&x=y?0;2");
        C.due("CHOSEN is KNOWN, then RIGHT", x.best(0, 0), 7);
        C.due("by 1 in all", x.best(0, 1), 1);
        Check.choice(x, "1");
        HeadReckons like = Check.withHead("l5a0h0t12c3");
        like.see(Check.pair(12, 34), 30, 0);
        C.due("of like ones the first: LEFT", like.best(0, 0), 5);
        like.untell();
        Check.choice(like, "5");
        C.due("SPLIT ahead of CHOSEN", like.best(0, 0), 5);
        HeadReckons turned = Check.withHead("l5a2h3t12c3");
        turned.see(Check.pair(12, 304), turned.way(6, Check.pair(12, 304), 0), 0);
        C.due("TURNED", turned.best(0, 0), 6);
        C.due("by 0", turned.best(0, 1), 0);
        HeadReckons wrongAnswers = Check.withHead("l5a2h3t12c3");
        wrongAnswers.see(Check.pair(12, 34), 38, -7);
        C.due("answers do not count", wrongAnswers.best(0, 0), 1);
        C.due("the sum", wrongAnswers.best(0, 1), 0);
    }

    private static void slips() {
        HeadReckons x = Check.withHead("l5a2h3t12c3");
        x.see(Check.pair(12, 34), 38, 408);
        x.see(Check.pair(12, 34), 38, 408 - 10);
        x.see(Check.pair(12, 34), 38, 408 + 10);
        x.see(Check.pair(12, 34), 38, 408 - 1000);
        x.see(Check.pair(12, 11), 38, 132 + 11);
        C.due("right: BAD", x.slip(1, 0, 0), -1);
        C.due("right: BAD, though the way is NOT", x.slip(0, 0, 0), -1);
        C.due("10 less: LOOK of 10 and 4 is the first", x.slip(1, 1, 0), 1);
        C.due("it, and three ADDs", x.slip(1, 1, 1), 4);
        C.due("10 more: the LOOK alone", x.slip(1, 2, 1), 1);
        C.due("none", x.slip(1, 3, 0), -2);
        C.due("none can", x.slip(1, 3, 1), 0);
        C.due("CROSSED: 10 less, ADD of 6 at place 1", x.slip(3, 1, 0), 3);
        C.due("the ADDs at place 1, the LOOK of 1 and 4", x.slip(3, 1, 1), 3);
        C.due("CROSSED: 10 more", x.slip(3, 2, 0), 4);
        C.due("the way is NOT", x.slip(0, 1, 0), -2);
        C.due("the way is NOT", x.slip(0, 1, 1), -2);
        C.due("KNOWN by the lesser number", x.slip(0, 4, 0), 0);
        C.due("KNOWN, how many", x.slip(0, 4, 1), 1);
        C.due("slip(7, ..)", x.slip(7, 1, 0), -1);
        C.due("slip(-1, ..)", x.slip(-1, 1, 0), -1);
        C.due("slip(11, ..)", x.slip(11, 1, 0), -1);
        C.due("ask 5", x.slip(1, 5, 0), -1);
        C.due("ask -1", x.slip(1, -1, 0), -1);
        C.due("what 2", x.slip(1, 1, 2), -1);
        C.due("what -1", x.slip(1, 1, -1), -1);
    }

    private static void slipsOfAnyHead() {
        HeadReckons x = Check.withHead("l5a2h3t9c3");
        Check.head(x, "l5a2h3t99c3");
        x.see(Check.pair(99, 99), 38, 9801 - 90000);
        x.see(Check.pair(70, 34), 38, 2380 - 34);
        C.due("the other head knows 70 and 34", x.slip(10, 1, 0), 0);
        C.due("this one does not", x.slip(0, 1, 0), -2);
        C.due("no ACT slips by 90000", x.slip(11, 0, 1), 0);
        x.see(Check.pair(9, 9), 5, 81 - 10);
        x.way(1, Check.pair(12, 34), 0);
        C.due("what another way made does not count", x.slip(0, 2, 1), 0);
        C.due("TURNED of the other", x.slip(16, 1, 0), -2);
    }

    private static void suits() {
        HeadReckons x = Check.withHead("l5a2h3t12c3");
        C.due("suits of nothing", x.suits(0), -5);
        C.due("suits(1)", x.suits(1), -1);
        C.due("suits(-1)", x.suits(-1), -1);
        x.see(Check.pair(12, 12), 1, 1);
        C.due("LEFT is not half of LEFT", x.suits(0), 0);
        Check.choice(x, "0");
        C.due("KNOWN is", x.suits(0), 1000);
        x.see(Check.pair(13, 12), 1, 1);
        x.see(Check.pair(14, 12), 1, 1);
        C.due("one of three, cut", x.suits(0), 333);
        x.see(Check.pair(2, 12), 1, 1);
        C.due("5 of 14 (LEFT: two LOOKs, an ADD of 2 digits)", x.suits(0), 500);
        HeadReckons y = Check.withHead("l5a0h0t12c3");
        Check.choice(y, "0");
        y.see(Check.pair(2, 12), 1, 1);
        C.due("exactly half", y.suits(0), 1000);
        HeadReckons z = Check.withHead("l5a1h0t12c3");
        Check.choice(z, "4");
        z.see(Check.pair(9, 9), 1, 1);
        C.due("half is cut", z.suits(0), 0);
    }

    public static void main(String[] args) {
        sees();
        asksFromRows();
        asksThatAreNotSo();
        fits();
        fitsBySlips();
        best();
        slips();
        slipsOfAnyHead();
        suits();
        C.end();
    }
}
