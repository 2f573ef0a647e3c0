/** Edges of promises 13 to 19: what is seen, asks from rows, what fits, which slip, what suits. */
final class EdgeSeenTest {
    private static final Check C = new Check("EdgeSeenTest");
    private static final int MIN = Integer.MIN_VALUE, MAX = Integer.MAX_VALUE, VOID = -2000000000;
    /** LEFT of 12 and 34 takes 38 tenths by this head, CROSSED 37, RIGHT and TURNED 51, SPLIT 58, SQUARED 91. */
    private static final String HEAD = "l5a2h3t12c6";
    private static final int AB = 120034;

    private static void fortyAsks() {
        C.sentence("SEEN: 0 .. 39 seen asks, as they come: a, b, tenths, an answer. FULL.");
        HeadReckons x = new HeadReckons();
        for (int i = 0; i <= 39; i++) {
            C.due("count(1)", x.count(1), i);
            C.due("see", x.see(Check.pair(1 + i, 9999 - i), 100 + i, 7 * i), i);
        }
        C.due("the 41st", x.see(AB, 1, 1), -3);
        C.due("the 41st again", x.see(AB, 1, 1), -3);
        C.due("BAD is named ahead of FULL", x.see(AB, -1, 1), -1);
        C.due("BAD is named ahead of FULL", x.see(0, 1, 1), -1);
        C.due("count(1)", x.count(1), 40);
        for (int i = 0; i <= 39; i++) {
            C.due("a of " + i, x.seen(i, 0), 1 + i);
            C.due("b of " + i, x.seen(i, 1), 9999 - i);
            C.due("tenths of " + i, x.seen(i, 2), 100 + i);
            C.due("answer of " + i, x.seen(i, 3), 7 * i - (1 + i) * (9999 - i));
        }
        C.due("there is no ask 40", x.seen(40, 0), VOID);
    }

    private static void seeBounds() {
        C.sentence("A seen ask (tenths 0 .. 9999, answer -999999999 .. 999999999): its number. BAD, FULL.");
        HeadReckons x = new HeadReckons();
        int came = 0;
        for (int tenths : new int[] {0, 1, 9998, 9999}) {
            C.due("tenths " + tenths, x.see(AB, tenths, 408), came++);
        }
        for (int answer : new int[] {-999999999, -999999998, -1, 0, 1, 999999998, 999999999}) {
            C.due("answer " + answer, x.see(AB, 38, answer), came);
            C.due("it is kept", x.seen(came++, 3), answer - 408);
        }
        for (int tenths : new int[] {MIN, -2, -1, 10000, 10001, MAX}) {
            C.due("tenths " + tenths, x.see(AB, tenths, 408), -1);
        }
        for (int answer : new int[] {MIN, -1000000001, -1000000000, 1000000000, 1000000001, MAX}) {
            C.due("answer " + answer, x.see(AB, 38, answer), -1);
        }
        C.due("count(1)", x.count(1), came);
    }

    private static void seenWhat() {
        C.sentence("Of a seen ask: 0 a, 1 b, 2 tenths, 3 its answer less a b. VOID: BAD.");
        HeadReckons x = new HeadReckons();
        C.due("nothing is seen", x.seen(0, 0), VOID);
        x.see(99999999, 9999, -999999999);
        x.see(10001, 0, 999999999);
        int[][] all = {{9999, 9999, 9999, -999999999 - 99980001}, {1, 1, 0, 999999998}};
        for (int ask = 0; ask <= 1; ask++) {
            for (int what = 0; what <= 3; what++) {
                C.due("seen(" + ask + ", " + what + ")", x.seen(ask, what), all[ask][what]);
            }
        }
        for (int wrong : new int[] {MIN, -1, 4, 5, MAX}) {
            C.due("seen(0, " + wrong + ")", x.seen(0, wrong), VOID);
        }
        for (int wrong : new int[] {MIN, -1, 2, 39, 40, MAX}) {
            C.due("seen(" + wrong + ", 0)", x.seen(wrong, 0), VOID);
        }
    }

    private static void put(HeadReckons x, int i, int... values) {
        for (int k = 0; k < values.length; k++) {
            C.due("put", x.put(0, i + k, values[k]), 1);
        }
    }

    private static HeadReckons withRow(int size) {
        HeadReckons x = new HeadReckons();
        x.row(0, 2, size);
        for (int i = 0; i < size; i++) {
            x.put(0, i, 1 + i);
        }
        return x;
    }

    private static void oneTo15() {
        C.sentence("n (1 .. 15) of them: how many came. BAD");
        for (int n : new int[] {MIN, -1, 0, 16, 17, MAX}) {
            HeadReckons x = withRow(60);
            C.due("n " + n, x.asks(0, 0, n), -1);
            C.due("n " + n + " of a missing row", x.asks(1, 0, n), -1);
            C.due("nothing came", x.count(1), 0);
        }
        for (int n : new int[] {1, 2, 14, 15}) {
            HeadReckons x = withRow(60);
            C.due("n " + n, x.asks(0, 0, n), n);
            C.due("so many came", x.count(1), n);
            C.due("the last of them", x.seen(n - 1, 0), 4 * n - 3);
        }
        for (int shelf : new int[] {MIN, -1, 6, 7, MAX}) {
            C.due("shelf " + shelf, withRow(60).asks(shelf, 0, 1), -1);
        }
        HeadReckons x = new HeadReckons();
        x.row(5, 2, 4);
        for (int i = 0; i < 4; i++) {
            x.put(5, i, 1);
        }
        C.due("shelf 5", x.asks(5, 0, 1), 1);
    }

    private static void rowOfInts() {
        C.sentence("-12 (no ROW of ints; a SHELF that holds nothing is missing)");
        HeadReckons x = new HeadReckons();
        C.due("a SHELF that holds nothing", x.asks(0, 0, 1), 0);
        for (int sort = 0; sort <= 4; sort++) {
            x.row(0, sort, 4);
            C.due("a ROW of sort " + sort, x.asks(0, 0, 1), sort == 2 ? 0 : -12);
            C.due("from a place that is not there", x.asks(0, -1, 1), sort == 2 ? 0 : -12);
            x.row(0, sort, 0);
            C.due("a ROW of none of sort " + sort, x.asks(0, 0, 1), sort == 2 ? 0 : -12);
            C.due("BAD is named ahead", x.asks(0, 0, 0), -1);
        }
        x.body(0);
        x.keep(0, 0);
        C.due("a BODY", x.asks(0, 0, 1), -12);
        x.keep(0, -1);
        C.due("nothing again", x.asks(0, 0, 1), 0);
        C.due("nothing came", x.count(1), 0);
    }

    private static void rowEnds() {
        C.sentence("it ends where the row is missing, ends (within a four, too)");
        for (int size = 0; size <= 13; size++) {
            for (int i = -2; i <= size + 2; i++) {
                int whole = i < 0 || i > size ? 0 : (size - i) / 4;
                HeadReckons x = withRow(size);
                C.due("from " + i + " of " + size, x.asks(0, i, 15), whole);
                C.due("so many came", x.count(1), whole);
                C.due("the first of them", x.seen(0, 0), whole > 0 ? i + 1 : VOID);
                C.due("one of them", withRow(size).asks(0, i, 1), Math.min(1, whole));
            }
        }
        for (int i : new int[] {MIN, MIN + 1, -4, 57, 58, 59, 60, 61, MAX - 3, MAX - 1, MAX}) {
            C.due("from " + i + " of 60", withRow(60).asks(0, i, 15), 0);
        }
        C.due("from 56 of 60", withRow(60).asks(0, 56, 15), 1);
        C.due("from 4 of 60", withRow(60).asks(0, 4, 15), 14);
    }

    private static void oneIsNotSo() {
        C.sentence("one is not so: those ahead came");
        int[][] taken = {{1, 1, 0, -999999999}, {9999, 9999, 9999, 999999999}, {1, 9999, 0, 0}, {9999, 1, 9999, 0}};
        int[][] refused = {{0, 1, 1, 1}, {1, 0, 1, 1}, {10000, 1, 1, 1}, {1, 10000, 1, 1}, {-1, 1, 1, 1}, {1, -1, 1, 1},
            {1, 1, -1, 1}, {1, 1, 10000, 1}, {1, 1, 1, 1000000000}, {1, 1, 1, -1000000000}, {MIN, 1, 1, 1}, {MAX, 1, 1, 1},
            {1, MIN, 1, 1}, {1, MAX, 1, 1}, {1, 1, MIN, 1}, {1, 1, MAX, 1}, {1, 1, 1, MIN}, {1, 1, 1, MAX}, {429497, 1, 1, 1}};
        for (int[] four : taken) {
            HeadReckons x = withRow(12);
            put(x, 4, four);
            C.due("taken: " + java.util.Arrays.toString(four), x.asks(0, 0, 3), 3);
            for (int what = 0; what <= 2; what++) {
                C.due("what " + what, x.seen(1, what), four[what]);
            }
            C.due("its answer", x.seen(1, 3), four[3] - four[0] * four[1]);
        }
        for (int[] four : refused) {
            HeadReckons x = withRow(12);
            put(x, 4, four);
            C.due("not so: " + java.util.Arrays.toString(four), x.asks(0, 0, 3), 1);
            C.due("the one ahead came", x.count(1), 1);
            C.due("it is the first", x.seen(0, 1), 2);
            C.due("from it on none comes", x.asks(0, 4, 2), 0);
            C.due("those behind come by themselves", x.asks(0, 8, 1), 1);
        }
    }

    private static void fullOfAsks() {
        C.sentence("or it is FULL: those ahead came");
        for (int ahead = 24; ahead <= 40; ahead++) {
            HeadReckons x = withRow(60);
            for (int i = 0; i < ahead; i++) {
                x.see(AB, 1, 1);
            }
            int room = 40 - ahead;
            C.due("15 behind " + ahead, x.asks(0, 0, 15), Math.min(15, room));
            C.due("count(1)", x.count(1), Math.min(40, ahead + 15));
            C.due("the last of all", x.seen(39, 0), ahead >= 25 && room > 0 ? 4 * room - 3 : room == 0 ? 12 : VOID);
        }
    }

    private static void fitsBounds() {
        C.sentence("FITS by a HEAD within x (0 .. 9999), as bits. BAD; STATE: nothing is seen.");
        HeadReckons x = Check.withHead(HEAD);
        C.due("nothing is seen", x.fits(0, 5), -5);
        C.due("BAD is named ahead of STATE", x.fits(1, 5), -1);
        C.due("BAD is named ahead of STATE", x.fits(0, -1), -1);
        x.see(AB, 38, 408);
        for (int wrong : new int[] {MIN, -1, 10000, 10001, MAX}) {
            C.due("fits(0, " + wrong + ")", x.fits(0, wrong), -1);
        }
        for (int wrong : new int[] {MIN, -1, 1, 6, MAX}) {
            C.due("fits(" + wrong + ", 0)", x.fits(wrong, 0), -1);
        }
        C.due("fits(0, 0)", x.fits(0, 0), 2);
        C.due("fits(0, 9998)", x.fits(0, 9998), 126);
        C.due("fits(0, 9999)", x.fits(0, 9999), 126);
    }

    private static void byXAtMost() {
        C.sentence("SECONDS differ from tenths by x at most");
        int[] seconds = {-1, 38, 51, 37, 91, 58, 51};
        for (int tenths : new int[] {0, 37, 38, 50, 90, 91, 92, 200}) {
            HeadReckons x = Check.withHead(HEAD);
            x.see(AB, tenths, 408);
            for (int by = 0; by <= 170; by++) {
                int bits = 0;
                for (int way = 1; way <= 6; way++) {
                    bits |= Math.abs(seconds[way] - tenths) <= by ? 1 << way : 0;
                }
                C.due("within " + by + " of " + tenths, x.fits(0, by), bits);
            }
        }
        HeadReckons free = Check.withHead("l0a0h0t9c6");
        free.see(70008, 9999, 56);
        C.due("0 and 9999 differ by more than 9998", free.fits(0, 9998), 0);
        C.due("and by 9999", free.fits(0, 9999), 111);
    }

    private static void ofAllAsks() {
        C.sentence("FITS: WAYS by a HEAD (bits) for which of all seen asks SECONDS differ (NOT: it does not fit)");
        for (int odd = 0; odd <= 39; odd += 13) {
            HeadReckons x = Check.withHead(HEAD);
            for (int i = 0; i <= 39; i++) {
                x.see(AB, i == odd ? 40 : 38, 408);
            }
            C.due("one differs by 2: not within 1", x.fits(0, 1), 0);
            C.due("within 2", x.fits(0, 2), 2);
            C.due("within 3", x.fits(0, 3), 10);
        }
        HeadReckons x = Check.withHead(HEAD);
        x.see(Check.pair(12, 12), 5, 144);
        C.due("KNOWN is one", x.fits(0, 0), 1);
        x.see(Check.pair(13, 12), 5, 156);
        C.due("KNOWN is NOT for the second", x.fits(0, 9999) & 1, 0);
        C.due("SQUARED, too; SPLIT goes", x.fits(0, 9999), 2 + 4 + 8 + 32 + 64);
    }

    /** Of 12 and 3 LEFT's ACTS slip so: LOOK of 10 and 3 by 10, LOOK of 2 and 3 by 2, the ADD of 36 by 1 or 10 less. */
    private static void oneSlip() {
        C.sentence("answers are right, or can be by one SLIP of that WAY (whatever CAPACITY)");
        for (int capacity : new int[] {1, 2, 40}) {
            for (int off = -130; off <= 130; off++) {
                HeadReckons x = Check.withHead("l5a2h3t12c" + capacity);
                x.see(Check.pair(12, 3), 14, 36 + off);
                boolean can = off == 0 || Math.abs(off) == 10 || Math.abs(off) == 2 || off == -1;
                C.due("LEFT by " + off, x.fits(0, 0), can ? 2 : 0);
            }
        }
    }

    private static void bestBounds() {
        C.sentence("BEST FIT of a HEAD: the WAY, 7 CHOSEN (what 0), the sum (1). BAD; STATE.");
        HeadReckons x = Check.withHead(HEAD);
        C.due("nothing is seen", x.best(0, 0), -5);
        C.due("BAD is named ahead of STATE", x.best(0, 2), -1);
        C.due("BAD is named ahead of STATE", x.best(1, 0), -1);
        x.see(AB, 36, 408);
        C.due("CROSSED", x.best(0, 0), 3);
        C.due("by 1", x.best(0, 1), 1);
        for (int wrong : new int[] {MIN, -1, 2, 3, MAX}) {
            C.due("best(0, " + wrong + ")", x.best(0, wrong), -1);
        }
        for (int wrong : new int[] {MIN, -1, 1, 6, MAX}) {
            C.due("best(" + wrong + ", 0)", x.best(wrong, 0), -1);
        }
    }

    private static void bestOfLike() {
        C.sentence("the least sum of differences (of WAYS that are NOT for some: left out; CHOSEN always is), of like ones the first");
        HeadReckons x = Check.withHead("l0a0h0t12c6");
        x.see(Check.pair(12, 12), 7, 144);
        C.due("all alike: KNOWN", x.best(0, 0), 0);
        x.see(Check.pair(13, 12), 7, 0);
        C.due("KNOWN is left out: LEFT", x.best(0, 0), 1);
        C.due("7 and 7", x.best(0, 1), 14);
        HeadReckons y = Check.withHead(HEAD);
        y.see(AB, 51, 408);
        C.due("RIGHT ahead of TURNED", y.best(0, 0), 2);
        Check.choice(y, "6");
        C.due("and ahead of CHOSEN", y.best(0, 0), 2);
        HeadReckons turned = Check.withHead(HEAD);
        int ab = Check.pair(12, 304);
        turned.see(ab, turned.way(6, ab, 0), 408);
        C.due("TURNED", turned.best(0, 0), 6);
        C.due("by 0", turned.best(0, 1), 0);
        HeadReckons z = Check.withHead(HEAD);
        Check.choice(z, "x=y?0;2");
        z.see(AB, 51, 408);
        z.see(Check.pair(12, 12), 5, 144);
        C.due("CHOSEN alone by 0", z.best(0, 0), 7);
        C.due("its sum", z.best(0, 1), 0);
        HeadReckons w = Check.withHead(HEAD);
        w.see(AB, 44, 408);
        w.see(AB, 45, 408);
        C.due("LEFT by 6 and 7, RIGHT by 7 and 6", w.best(0, 0), 1);
        C.due("13", w.best(0, 1), 13);
        w.see(AB, 45, 408);
        C.due("RIGHT", w.best(0, 0), 2);
        C.due("19", w.best(0, 1), 19);
    }

    private static void slipEach(int way, int a, int b, int[][] offs) {
        for (int[] off : offs) {
            HeadReckons x = Check.withHead(HEAD);
            x.see(Check.pair(a, b), 1, a * b + off[0]);
            C.due("way " + way + ", by " + off[0] + ": the first", x.slip(way, 0, 0), off[1]);
            C.due("way " + way + ", by " + off[0] + ": how many", x.slip(way, 0, 1), off[2]);
        }
    }

    private static void whichSlip() {
        C.sentence("WHICH SLIP: the first ACT that alone can have slipped so; NOT: none. How many can.");
        slipEach(0, 12, 11, new int[][] {{11, 0, 1}, {-11, 0, 1}, {12, -2, 0}, {10, -2, 0}, {-1, -2, 0}, {22, -2, 0}});
        slipEach(1, 12, 3, new int[][] {{10, 0, 1}, {-10, 0, 2}, {2, 1, 1}, {-2, 1, 1}, {-1, 2, 1}, {1, -2, 0}, {-100, -2, 0},
            {100, -2, 0}, {3, -2, 0}, {30, -2, 0}, {-12, -2, 0}, {999999999 - 36, -2, 0}, {-999999999 - 36, -2, 0}});
        slipEach(2, 12, 34, new int[][] {{-1, 2, 3}, {1, -2, 0}, {10, 0, 1}, {-10, 0, 4}, {100, 4, 1}, {-100, 4, 3}, {20, 5, 1},
            {2, 1, 1}, {-1000, -2, 0}});
        slipEach(3, 12, 34, new int[][] {{2, 0, 1}, {-2, 0, 1}, {-1, -2, 0}, {20, 2, 1}, {-10, 3, 3}, {10, 4, 1}, {-100, 5, 3},
            {100, 7, 1}, {-1000, -2, 0}, {1000, -2, 0}});
        slipEach(4, 1, 3, new int[][] {{2, 0, 1}, {-2, 0, 1}, {1, 2, 1}, {-1, 2, 2}, {-10, -2, 0}});
        slipEach(5, 3, 4, new int[][] {{2, 0, 2}, {-2, 0, 2}, {1, -2, 0}, {-1, -2, 0}, {3, -2, 0}});
        slipEach(6, 3, 12, new int[][] {{10, 0, 1}, {-10, 0, 2}, {2, 1, 1}, {-1, 2, 1}, {-100, -2, 0}});
    }

    private static void slipBounds() {
        C.sentence("BAD (the answer is right); NOT (also: the WAY is NOT).");
        HeadReckons x = Check.withHead(HEAD);
        C.due("nothing is seen", x.slip(1, 0, 0), -1);
        x.see(Check.pair(13, 12), 1, 156);
        x.see(Check.pair(13, 12), 1, 155);
        C.due("right", x.slip(1, 0, 0), -1);
        C.due("right", x.slip(1, 0, 1), -1);
        C.due("right, and the WAY is NOT", x.slip(0, 0, 0), -1);
        C.due("right, and the WAY is NOT", x.slip(4, 0, 1), -1);
        C.due("the WAY is NOT", x.slip(0, 1, 0), -2);
        C.due("the WAY is NOT", x.slip(0, 1, 1), -2);
        C.due("the WAY is NOT", x.slip(4, 1, 0), -2);
        for (int wrong : new int[] {MIN, -1, 2, 3, MAX}) {
            C.due("slip(1, 1, " + wrong + ")", x.slip(1, 1, wrong), -1);
            C.due("BAD is named ahead of NOT", x.slip(0, 1, wrong), -1);
        }
        for (int wrong : new int[] {MIN, -1, 2, 39, 40, MAX}) {
            C.due("slip(1, " + wrong + ", 0)", x.slip(1, wrong, 0), -1);
        }
        C.due("1 less: the ADDs", x.slip(1, 1, 1), 3);
    }

    private static void noActLeftBehind() {
        C.sentence("the first ACT that alone can have slipped so: none that another WAY made");
        for (int way : new int[] {0, 1, 2, 5, 6}) {
            HeadReckons x = Check.withHead(HEAD);
            x.see(Check.pair(2, 4), 1, 8 - 10);
            x.see(Check.pair(2, 4), 1, 8 - 1);
            for (int ask = 0; ask <= 1; ask++) {
                x.way(1, 99999999, 0);
                C.due("way " + way + ": no ADD", x.slip(way, ask, 0), -2);
                x.way(1, 99999999, 0);
                C.due("way " + way + ": none can", x.slip(way, ask, 1), 0);
                x.way(1, 99999999, 0);
                C.due("no WAY has both", x.fits(0, 9999), 0);
            }
        }
    }

    private static void suitsBounds() {
        C.sentence("SUITS of a HEAD. BAD; STATE.");
        HeadReckons x = Check.withHead(HEAD);
        C.due("nothing is seen", x.suits(0), -5);
        for (int wrong : new int[] {MIN, -1, 1, 6, MAX}) {
            C.due("suits(" + wrong + ")", x.suits(wrong), -1);
        }
        x.see(AB, 1, 1);
        C.due("something is seen", x.suits(0), 0);
        C.due("suits(1)", x.suits(1), -1);
    }

    /** Of 2 and 12 LEFT takes two LOOKs and an ADD of two digits, KNOWN one LOOK. */
    private static void halfOrLess() {
        C.sentence("of seen asks how many have by CHOSEN SECONDS of half (cut) or less of LEFT's");
        String[] heads = {"l7a0h0t12c6", "l7a1h0t12c6", "l0a0h0t12c6", "l1a0h0t12c6", "l99a0h0t12c6"};
        for (String head : heads) {
            HeadReckons x = Check.withHead(head);
            Check.choice(x, "0");
            x.see(Check.pair(2, 12), 1, 1);
            C.due("half of LEFT", x.suits(0), 1000);
        }
        HeadReckons one = Check.withHead("l1a0h0t12c6");
        Check.choice(one, "0");
        one.see(Check.pair(2, 3), 1, 1);
        C.due("1 is more than half of 1, cut", one.suits(0), 0);
        HeadReckons three = Check.withHead("l1a0h1t9c6");
        Check.choice(three, "3");
        three.see(Check.pair(11, 11), 1, 1);
        C.due("CROSSED takes 7 of 4", three.suits(0), 0);
        HeadReckons cut = Check.withHead("l1a1h0t12c6");
        Check.choice(cut, "5");
        cut.see(Check.pair(1, 12), 1, 1);
        C.due("SPLIT takes 2, LEFT 4", cut.suits(0), 1000);
        cut.turn(0, 1, 0);
        C.due("SPLIT takes 2, LEFT 2", cut.suits(0), 0);
        HeadReckons nought = Check.withHead("l0a0h1t12c6");
        nought.see(Check.pair(2, 12), 1, 1);
        C.due("0 is half of 0", nought.suits(0), 1000);
    }

    private static void thousandthsCut() {
        C.sentence("thousandths (cut)");
        int[][] all = {{0, 1, 0}, {1, 1, 1000}, {1, 2, 500}, {1, 3, 333}, {2, 3, 666}, {1, 6, 166}, {1, 7, 142}, {6, 7, 857},
            {1, 40, 25}, {39, 40, 975}, {40, 40, 1000}, {38, 39, 974}, {0, 40, 0}};
        for (int[] one : all) {
            HeadReckons x = Check.withHead(HEAD);
            Check.choice(x, "0");
            for (int i = 0; i < one[1]; i++) {
                x.see(i < one[0] ? Check.pair(2, 12) : Check.pair(2, 13), 1, 1);
            }
            C.due(one[0] + " of " + one[1], x.suits(0), one[2]);
        }
    }

    public static void main(String[] args) {
        fortyAsks();
        seeBounds();
        seenWhat();
        oneTo15();
        rowOfInts();
        rowEnds();
        oneIsNotSo();
        fullOfAsks();
        fitsBounds();
        byXAtMost();
        ofAllAsks();
        oneSlip();
        bestBounds();
        bestOfLike();
        whichSlip();
        slipBounds();
        noActLeftBehind();
        suitsBounds();
        halfOrLess();
        thousandthsCut();
        C.end();
    }
}
