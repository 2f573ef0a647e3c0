/** Edges of promises 7, 8, 10, 11 and 12: ways, their acts, answers, the quickest, the least table. */
final class EdgeWaysTest {
    private static final Check C = new Check("EdgeWaysTest");
    private static final int MIN = Integer.MIN_VALUE, MAX = Integer.MAX_VALUE, VOID = -2000000000;
    private static final String HEAD = "l5a2h3t12c6";

    /** The acts of a way by the head above, each told as its letter, its number, and what is held behind it. */
    private static void acts(int way, int a, int b, String... acts) {
        HeadReckons x = Check.withHead(HEAD);
        int ab = Check.pair(a, b);
        String name = "way " + way + " of " + a + " and " + b + ", ";
        int seconds = 0;
        int holds = 0;
        for (int i = 0; i < acts.length; i++) {
            String[] told = acts[i].split("[ /]");
            int sort = "LAH".indexOf(told[0]);
            int length = sort == 0 ? 5 : (sort == 1 ? 2 : 3) * told[1].length();
            C.due(name + "sort " + i, x.step(way, ab, i, 0), sort);
            C.due(name + "number " + i, x.step(way, ab, i, 1), Integer.parseInt(told[1]));
            C.due(name + "length " + i, x.step(way, ab, i, 2), length);
            C.due(name + "held " + i, x.step(way, ab, i, 3), Integer.parseInt(told[2]));
            seconds += length;
            holds = Math.max(holds, Integer.parseInt(told[2]));
        }
        C.due(name + "seconds", x.way(way, ab, 0), seconds);
        C.due(name + "holds", x.way(way, ab, 1), holds);
        C.due(name + "how many", x.way(way, ab, 2), acts.length);
    }

    private static void isNot(int way, int a, int b) {
        HeadReckons x = Check.withHead(HEAD);
        for (int what = 0; what <= 2; what++) {
            C.due("way " + way + " of " + a + " and " + b, x.way(way, Check.pair(a, b), what), -2);
        }
    }

    private static long asked(HeadReckons x, int call, int ab) {
        switch (call) {
            case 0: return x.way(1, ab, 0);
            case 1: return x.step(1, ab, 0, 0);
            case 2: return x.chosen(0, ab);
            case 3: return x.answer(1, ab, 7);
            case 4: return x.quickest(0, ab, 99);
            case 5: return x.table(0, ab, MAX);
            case 6: return x.see(ab, 1, 1);
            case 7: return x.tell(ab);
            default: return x.ask(0, ab);
        }
    }

    private static void numbersTo9999() {
        C.sentence("NUMBERS 1 .. 9999 are asked in pairs (a, b). ab: 10000 times a, and b");
        String[] calls = {"way", "step", "chosen", "answer", "quickest", "table", "see", "tell", "ask"};
        int[] taken = {10001, 10002, 19999, 20001, 99990001, 99980001, 99989999, 99999998, 99999999};
        int[] refused = {0, 1, 2, 9999, 10000, 20000, 99980000, 99990000, 100000000, 100000001, 100009999, 110000000,
            -1, -9999, -10000, -10001, -99999999, MIN, MIN + 1, MAX, MAX - 1};
        for (int call = 0; call < calls.length; call++) {
            for (int ab : taken) {
                long answer = asked(Check.withHead("l5a2h3t12c40"), call, ab);
                C.that(calls[call] + " of " + ab, answer >= 0);
                if (call == 3) {
                    C.due("answer of " + ab, answer, ab / 10000 * (ab % 10000));
                }
            }
            for (int ab : refused) {
                long want = call == 1 || call == 3 ? VOID : -1;
                C.due(calls[call] + " of " + ab, asked(Check.withHead("l5a2h3t12c40"), call, ab), want);
            }
        }
    }

    private static long byWay(HeadReckons x, int call, int hw) {
        switch (call) {
            case 0: return x.way(hw, 70008, 2);
            case 1: return x.step(hw, 70008, 0, 0);
            case 2: return x.answer(hw, 70008, 7);
            default: return x.slip(hw, 0, 1);
        }
    }

    private static HeadReckons withHeads(int heads) {
        HeadReckons x = new HeadReckons();
        for (int i = 0; i < heads; i++) {
            Check.head(x, "l5a2h3t12c40");
        }
        x.see(70008, 5, 57);
        return x;
    }

    private static void headsAndWays() {
        C.sentence("hw: 10 times the HEAD, and the WAY: WAYS 0 .. 6");
        int[] refusals = {-1, VOID, VOID, -1};
        int[] nots = {-2, VOID, VOID, -2};
        for (int heads = 0; heads <= 6; heads++) {
            for (int call = 0; call <= 3; call++) {
                for (int hw = -11; hw <= 70; hw++) {
                    boolean isOne = hw >= 0 && hw / 10 < heads && hw % 10 <= 6;
                    long got = byWay(withHeads(heads), call, hw);
                    String name = "call " + call + " by " + hw + " with heads: " + heads;
                    if (isOne && hw % 10 != 4) {
                        C.that(name, got >= 0);
                    } else {
                        C.due(name, got, isOne ? nots[call] : refusals[call]);
                    }
                }
                for (int hw : new int[] {MIN, MIN + 1, -100, 100, 1006, MAX, MAX - 1}) {
                    C.due("call " + call + " by " + hw, byWay(withHeads(heads), call, hw), refusals[call]);
                }
            }
        }
    }

    private static void tenTimesTheHead() {
        C.sentence("hw: 10 times the HEAD, and the WAY: each HEAD by its own numbers");
        HeadReckons x = new HeadReckons();
        for (int head = 0; head <= 5; head++) {
            Check.head(x, "l" + (1 + head) + "a0h0t" + (10 + head) + "c" + (1 + head));
        }
        x.see(Check.pair(1, 14), 5, 15);
        for (int head = 0; head <= 5; head++) {
            for (int way = 1; way <= 3; way++) {
                C.due("way of HEAD " + head, x.way(10 * head + way, Check.pair(1, 14), 0), 2 * (1 + head));
                C.due("step of HEAD " + head, x.step(10 * head + way, Check.pair(1, 14), 0, 2), 1 + head);
            }
            C.due("way 0 of HEAD " + head, x.way(10 * head, Check.pair(1, 14), 0), head < 4 ? -2 : 1 + head);
            C.due("answer by way 0 of HEAD " + head, x.answer(10 * head, Check.pair(1, 14), 0), head < 4 ? VOID : 14);
            C.due("slip by way 0 of HEAD " + head, x.slip(10 * head, 0, 0), head < 4 ? -2 : 0);
        }
    }

    private static void whats() {
        C.sentence("SECONDS in tenths (what 0), HOLDS (1), how many ACTS (2). BAD; NOT.");
        HeadReckons x = Check.withHead(HEAD);
        C.due("what 0", x.way(1, Check.pair(12, 3), 0), 5 + 5 + 2 * 2);
        C.due("what 1", x.way(1, Check.pair(12, 3), 1), 2);
        C.due("what 2", x.way(1, Check.pair(12, 3), 2), 3);
        for (int what : new int[] {MIN, -1, 3, 4, MAX}) {
            C.due("what " + what, x.way(1, Check.pair(12, 3), what), -1);
            C.due("BAD is named ahead of NOT", x.way(0, Check.pair(13, 3), what), -1);
        }
        C.due("NOT", x.way(0, Check.pair(13, 3), 2), -2);
    }

    private static void firstAndLastAct() {
        C.sentence("ACT i of a WAY: its SORT (what 0), the number (1), its length (2), what is held behind it (3). VOID: BAD, NOT.");
        HeadReckons x = Check.withHead(HEAD);
        int ab = Check.pair(12, 3);
        int[][] all = {{0, 30, 5, 2}, {0, 6, 5, 2}, {1, 36, 4, 2}};
        for (int i = 0; i < 3; i++) {
            for (int what = 0; what <= 3; what++) {
                C.due("step " + i + ", what " + what, x.step(1, ab, i, what), all[i][what]);
            }
            for (int what : new int[] {MIN, -1, 4, 5, MAX}) {
                C.due("step " + i + ", what " + what, x.step(1, ab, i, what), VOID);
            }
        }
        for (int i : new int[] {MIN, -2, -1, 3, 4, 79, 80, MAX}) {
            C.due("step " + i, x.step(1, ab, i, 1), VOID);
        }
        C.due("of a WAY with more ACTS", x.step(2, Check.pair(12, 34), 8, 1), 408);
        C.due("none of theirs is left", x.step(1, ab, 3, 1), VOID);
        C.due("of a WAY that is NOT", x.step(0, Check.pair(13, 3), 0, 0), VOID);
        C.due("its first ACT alone", x.step(0, Check.pair(12, 3), 0, 1), 36);
        C.due("there is no other", x.step(0, Check.pair(12, 3), 1, 1), VOID);
    }

    private static void lookedUp() {
        C.sentence("LOOKED UP by a HEAD: x y, if both are at most TABLE, or the pair is LEARNT");
        for (int table : new int[] {9, 12, 99}) {
            HeadReckons x = Check.withHead("l5a2h3t" + table + "c6");
            int more = table + 1;
            C.due("both at TABLE", x.way(0, Check.pair(table, table), 2), 1);
            C.due("a above", x.way(0, Check.pair(more, table), 2), -2);
            C.due("b above", x.way(0, Check.pair(table, more), 2), -2);
            C.due("a above, b 1", x.way(0, Check.pair(more, 1), 2), -2);
            C.due("b above, a 1", x.way(0, Check.pair(1, more), 2), -2);
            C.due("both above", x.way(0, Check.pair(more, more), 2), -2);
            C.due("the least", x.way(0, 10001, 2), 1);
            C.due("the greatest", x.way(0, 99999999, 2), -2);
        }
        HeadReckons x = Check.withHead("l5a2h3t9c6");
        int ab = Check.pair(99, 98);
        for (int asked = 1; asked <= 3; asked++) {
            C.due("not by " + (asked - 1), x.way(0, ab, 2), -2);
            x.ask(0, ab);
        }
        C.due("LEARNT by 3", x.way(0, ab, 2), 1);
        C.due("either way about", x.way(0, Check.pair(98, 99), 2), 1);
        C.due("99 by 99 is another pair", x.way(0, Check.pair(99, 99), 2), -2);
    }

    private static void sizesOfSums() {
        C.sentence("ADD a times the SIZE of what it makes; HOLD h times the SIZE of what is held");
        int[][] sums = {{3, 12, 2}, {9, 11, 2}, {25, 4, 3}, {9, 111, 3}, {8, 125, 4}, {9, 1111, 4}, {16, 625, 5}, {9999, 11, 6}};
        for (int[] sum : sums) {
            HeadReckons x = Check.withHead("l0a1h0t12c6");
            int ab = Check.pair(sum[0], sum[1]);
            int last = x.way(1, ab, 2) - 1;
            C.due("ADD that makes " + sum[0] * sum[1], x.step(1, ab, last, 2), sum[2]);
            C.due("it is held", x.step(1, ab, last, 3), sum[2]);
        }
        int[][] rows = {{1, 9, 1}, {2, 5, 2}, {11, 9, 2}, {20, 5, 3}, {111, 9, 3}, {200, 5, 4}, {1111, 9, 4}, {2000, 5, 5}, {9999, 9, 5}};
        for (int[] row : rows) {
            HeadReckons x = Check.withHead("l0a0h99t12c6");
            C.due("HOLD of " + row[0] * row[1], x.way(2, Check.pair(row[0], row[1]), 0), 99 * row[2]);
        }
        HeadReckons free = Check.withHead("l0a0h0t9c1");
        HeadReckons dear = Check.withHead("l99a99h99t9c1");
        for (int way = 1; way <= 4; way++) {
            C.due("all lengths 0", free.way(way, 99999999, 0), 0);
        }
        C.due("one LOOK of 99", dear.way(0, Check.pair(9, 9), 0), 99);
        C.due("LOOK and HOLD of 99", dear.way(2, Check.pair(9, 9), 0), 99 + 198);
    }

    private static void runningOfNought() {
        C.sentence("the RUNNING sum is held, too (its SIZE; nothing, if it is 0 or there is none)");
        acts(3, 1, 1, "L 1/1", "H 1/1");
        acts(3, 10, 10, "H 0/1", "H 0/2", "L 1/3", "H 1/3");
        acts(3, 5, 2, "L 10/2", "H 0/2");
        acts(3, 11, 11, "L 1/1", "H 1/1", "L 1/1", "A 1/2", "L 1/2", "A 2/2", "H 2/2", "L 1/2", "A 1/3", "H 1/3");
        acts(2, 1, 11, "L 1/1", "H 1/1", "L 10/3", "H 10/3", "A 11/2");
    }

    private static void mostHeld() {
        C.sentence("HOLDS: the most digits held behind any ACT");
        acts(0, 12, 12, "L 144/3");
        acts(0, 1, 1, "L 1/1");
        acts(1, 25, 4, "L 80/2", "L 20/2", "A 100/3");
        acts(4, 1, 3, "L 4/1", "H 4/1", "L 1/2", "A 3/1");
        acts(2, 12, 34, "L 40/2", "L 8/2", "A 48/2", "H 48/2", "L 300/5", "L 60/5", "A 360/5", "H 360/5", "A 408/3");
        HeadReckons x = Check.withHead("l0a0h0t9c1");
        C.due("four rows of 9999: 5 and 6 and 7 and 8 digits", x.way(2, 99999999, 1), 26);
    }

    private static void knownAlone() {
        C.sentence("0 KNOWN: one LOOK of a b, if it is LOOKED UP; else NOT.");
        acts(0, 12, 11, "L 132/3");
        acts(0, 11, 12, "L 132/3");
        isNot(0, 13, 1);
        isNot(0, 1, 13);
    }

    private static void leftOfNoughts() {
        C.sentence("1 LEFT: for each figure of a that is not 0, for each figure of b that is not 0; but for the first LOOK, an ADD");
        acts(1, 7, 8, "L 56/2");
        acts(1, 1000, 9000, "L 9000000/7");
        acts(1, 101, 5, "L 500/3", "L 5/3", "A 505/3");
        acts(1, 5, 101, "L 500/3", "L 5/3", "A 505/3");
        acts(1, 10, 12, "L 100/3", "L 20/3", "A 120/3");
        acts(1, 1001, 1001, "L 1000000/7", "L 1000/7", "A 1001000/7", "L 1000/7", "A 1002000/7", "L 1/7", "A 1002001/7");
        HeadReckons x = Check.withHead(HEAD);
        C.due("16 LOOKs, 15 ADDs", x.way(1, 99999999, 2), 31);
    }

    private static void oneRowAndMore() {
        C.sentence("2 RIGHT: for each figure of b from the right that is not 0 a row; at the end, of two rows and more");
        acts(2, 7, 8, "L 56/2", "H 56/2");
        acts(2, 7, 8000, "L 56000/5", "H 56000/5");
        acts(2, 12, 300, "L 3000/4", "L 600/4", "A 3600/4", "H 3600/4");
        acts(2, 7, 11, "L 7/1", "H 7/1", "L 70/3", "H 70/3", "A 77/2");
        acts(2, 7, 1001, "L 7/1", "H 7/1", "L 7000/5", "H 7000/5", "A 7007/4");
        acts(2, 2, 111, "L 2/1", "H 2/1", "L 20/3", "H 20/3", "L 200/6", "H 200/6", "A 22/5", "A 222/3");
        acts(2, 1, 1111, "L 1/1", "H 1/1", "L 10/3", "H 10/3", "L 100/6", "H 100/6", "L 1000/10", "H 1000/10",
                "A 11/9", "A 111/7", "A 1111/4");
    }

    private static void placesOfCrossed() {
        C.sentence("3 CROSSED: for each place k from 0 on (to SIZES of both, less 2): behind the pairs of a place (also of none) a HOLD");
        int[] some = {1, 7, 10, 99, 100, 305, 1000, 9999};
        for (int a : some) {
            for (int b : some) {
                HeadReckons x = Check.withHead(HEAD);
                int ab = Check.pair(a, b);
                int holds = 0;
                int acts = x.way(3, ab, 2);
                for (int i = 0; i < acts; i++) {
                    holds += x.step(3, ab, i, 0) == 2 ? 1 : 0;
                }
                int places = String.valueOf(a).length() + String.valueOf(b).length() - 1;
                C.due("HOLDs of " + a + " and " + b, holds, places);
                C.due("the last ACT is one", x.step(3, ab, acts - 1, 0), 2);
            }
        }
        acts(3, 1000, 1000, "H 0/1", "H 0/2", "H 0/3", "H 0/4", "H 0/5", "H 0/6", "L 1/7", "H 1/7");
        acts(3, 100, 7, "H 0/1", "H 0/2", "L 7/3", "H 7/3");
    }

    private static void figuresOfCrossed() {
        C.sentence("a LOOK of their product, an ADD to the RUNNING sum, but for the very first LOOK of all");
        acts(3, 10, 11, "H 0/1", "L 1/2", "H 1/2", "L 1/2", "A 1/3", "H 1/3");
        acts(3, 12, 34, "L 8/1", "H 8/1", "L 6/1", "A 6/2", "L 4/2", "A 10/3", "H 0/3", "L 3/3", "A 4/3", "H 4/3");
        acts(3, 101, 11, "L 1/1", "H 1/1", "L 1/1", "A 1/2", "H 1/2", "L 1/2", "A 1/3", "H 1/3", "L 1/3", "A 1/4", "H 1/4");
    }

    private static void goesOnByTen() {
        C.sentence("a HOLD of the RUNNING sum's last figure (one digit, 0 too), and RUNNING goes on divided by 10 (cut)");
        acts(3, 99, 9, "L 81/2", "H 1/2", "L 81/2", "A 89/3", "H 9/3");
        acts(3, 5, 4, "L 20/2", "H 0/2");
        acts(3, 45, 8, "L 40/2", "H 0/2", "L 32/2", "A 36/3", "H 6/3");
        acts(3, 3, 3, "L 9/1", "H 9/1");
    }

    private static void likeAndUnlike() {
        C.sentence("4 SQUARED: if a and b are both even or both odd; (nothing, if d is 0); else NOT.");
        acts(4, 1, 1, "L 1/1", "H 1/1", "A 1/1");
        acts(4, 2, 2, "L 4/1", "H 4/1", "A 4/1");
        acts(4, 3, 1, "L 4/1", "H 4/1", "L 1/2", "A 3/1");
        acts(4, 1, 3, "L 4/1", "H 4/1", "L 1/2", "A 3/1");
        acts(4, 2, 8, "L 25/2", "H 25/2", "L 9/3", "A 16/2");
        isNot(4, 1, 2);
        isNot(4, 2, 1);
        isNot(4, 9998, 9999);
        HeadReckons x = Check.withHead(HEAD);
        C.due("the greatest: 31 ACTS, a HOLD, an ADD", x.way(4, 99999999, 2), 33);
        C.due("s 5000, d 4999: a LOOK, a HOLD, 31 ACTS, an ADD", x.way(4, Check.pair(9999, 1), 2), 34);
        C.due("both squares 31 ACTS", x.way(4, Check.pair(9998, 7776), 2), 31 + 1 + 31 + 1);
    }

    private static void greatestFactor() {
        C.sentence("5 SPLIT: b = p q with p the greatest from 2 to TABLE that divides b, and q above 1; else NOT.");
        isNot(5, 7, 1);
        isNot(5, 7, 2);
        isNot(5, 7, 3);
        isNot(5, 7, 11);
        isNot(5, 7, 13);
        isNot(5, 7, 169);
        isNot(5, 7, 9973);
        acts(5, 7, 4, "L 14/2", "H 14/2", "L 20/4", "L 8/4", "A 28/4");
        acts(5, 7, 26, "L 14/2", "H 14/2", "L 100/5", "L 30/5", "A 130/5", "L 40/5", "A 170/5", "L 12/5", "A 182/5");
        acts(5, 1, 144, "L 10/2", "L 2/2", "A 12/2", "H 12/2", "L 100/5", "L 20/5", "A 120/5", "L 20/5", "A 140/5", "L 4/5",
                "A 144/5");
        acts(5, 1, 12, "L 6/1", "H 6/1", "L 12/3");
        acts(5, 1, 24, "L 10/2", "L 2/2", "A 12/2", "H 12/2", "L 20/4", "L 4/4", "A 24/4");
        HeadReckons x = Check.withHead("l5a2h3t12c6");
        C.due("13 is no factor by TABLE 12", x.way(5, Check.pair(1, 169), 2), -2);
        x.turn(0, 3, 13);
        C.due("it is by TABLE 13", x.step(5, Check.pair(1, 169), 3, 1), 13);
        x.turn(0, 3, 99);
        C.due("99 by TABLE 99", x.step(5, Check.pair(1, 9801), 3, 1), 99);
        C.due("97 by TABLE 99, as 101 is above", x.step(5, Check.pair(1, 97 * 101), 3, 1), 97);
        C.due("103 and 97: 97", x.step(5, Check.pair(1, 97 * 103), 3, 1), 97);
        C.due("twice 4999: 2", x.step(5, Check.pair(1, 9998), 1, 1), 2);
        C.due("no factor but 9973", x.way(5, Check.pair(1, 9973), 2), -2);
    }

    private static void turnedAbout() {
        C.sentence("6 TURNED: RIGHT of b and a.");
        acts(6, 12, 34, "L 60/2", "L 8/2", "A 68/2", "H 68/2", "L 300/5", "L 40/5", "A 340/5", "H 340/5", "A 408/3");
        acts(6, 34, 12, "L 40/2", "L 8/2", "A 48/2", "H 48/2", "L 300/5", "L 60/5", "A 360/5", "H 360/5", "A 408/3");
        acts(6, 8000, 7, "L 56000/5", "H 56000/5");
        acts(6, 11, 7, "L 7/1", "H 7/1", "L 70/3", "H 70/3", "A 77/2");
    }

    private static void endAtTheProduct() {
        C.sentence("All RUNNING sums end at a b.");
        int[] some = {1, 2, 9, 10, 11, 42, 90, 99, 100, 101, 808, 990, 999, 1000, 1001, 2468, 9090, 9998, 9999};
        for (int a : some) {
            for (int b : some) {
                HeadReckons x = Check.withHead("l5a2h3t99c3");
                int ab = Check.pair(a, b);
                for (int way = 0; way <= 6; way++) {
                    int acts = x.way(way, ab, 2);
                    if (way != 3 && acts > 0) {
                        C.due("the last of way " + way + " of " + ab, x.step(way, ab, acts - 1, 1), a * b);
                    }
                }
                C.due("figures held by CROSSED of " + ab, crossed(x, ab), a * b);
            }
        }
    }

    /** What CROSSED held, figure by figure, and in front of it what a b has more, if as many digits are still held. */
    private static int crossed(HeadReckons x, int ab) {
        int ten = 1;
        int sum = 0;
        int acts = x.way(3, ab, 2);
        for (int i = 0; i < acts; i++) {
            if (x.step(3, ab, i, 0) == 2) {
                sum += ten * x.step(3, ab, i, 1);
                ten *= 10;
            }
        }
        int front = ab / 10000 * (ab % 10000) / ten;
        int size = front == 0 ? 0 : String.valueOf(front).length();
        int places = String.valueOf(ten).length() - 1;
        return x.step(3, ab, acts - 1, 3) == places + size ? front * ten + sum : -1;
    }

    /** An ANSWER told by the ACTS, as the document says it. lesser: of the products without noughts the lesser figure. */
    private static int drawn(int[][] acts, int product, boolean isCrossed, int capacity, int seed, int[] lesser) {
        int z = seed;
        int answer = product;
        int place = 0;
        for (int[] act : acts) {
            int o = act[2] - capacity;
            int unit = 1;
            for (int k = 0; isCrossed && k < place; k++) {
                unit *= 10;
            }
            place += act[0] == 2 ? 1 : 0;
            if (o <= 0) {
                continue;
            }
            z = z * 1103515245 + 12345;
            boolean slips = (z >>> 8) % 100 < (o >= 19 ? 95 : 5 * o);
            if (slips && act[0] == 0) {
                int core = act[1];
                while (core % 10 == 0) {
                    core /= 10;
                    unit *= 10;
                }
                answer += ((z >>> 20) % 2 == 1 ? 1 : -1) * lesser[core] * unit;
            } else if (slips && act[0] == 1) {
                int power = (z >>> 20) % String.valueOf(act[1]).length();
                for (int i = 0; i < power; i++) {
                    unit *= 10;
                }
                answer -= unit;
            }
        }
        return answer;
    }

    private static int answers(int way, int a, int b, int capacity) {
        int[] lesser = new int[100];
        int[][] products = {{1, 1}, {3, 1}, {4, 1}, {6, 2}, {7, 1}, {8, 2}, {14, 2}, {21, 3}, {49, 7}, {81, 9}};
        for (int[] product : products) {
            lesser[product[0]] = product[1];
        }
        int ab = Check.pair(a, b);
        HeadReckons told = Check.withHead("l5a2h3t12c" + capacity);
        int[][] acts = new int[told.way(way, ab, 2)][3];
        for (int i = 0; i < acts.length; i++) {
            acts[i][0] = told.step(way, ab, i, 0);
            acts[i][1] = told.step(way, ab, i, 1);
            acts[i][2] = told.step(way, ab, i, 3);
        }
        int wrong = 0;
        for (int i = -300; i <= 300; i++) {
            int seed = i == -300 ? MIN : i == 300 ? MAX : i * (i % 2 == 0 ? 1 : 7654321);
            HeadReckons x = Check.withHead("l5a2h3t12c" + capacity);
            int want = drawn(acts, a * b, way == 3, capacity, seed, lesser);
            C.due("answer by way " + way + " of " + ab + ", capacity " + capacity + ", seed " + seed, x.answer(way, ab, seed), want);
            wrong += want == a * b ? 0 : 1;
        }
        return wrong;
    }

    private static void draws() {
        C.sentence("a draw z = z * 1103515245 + 12345 (an int; SEED at first): if (z >>> 8) % 100 is below 5 o (95 at most), it SLIPS");
        int[][] all = {{1, 7777, 3333}, {2, 7777, 3333}, {3, 7777, 3333}, {6, 7777, 3333}, {1, 9999, 9999}, {2, 9999, 9999},
            {3, 9999, 9999}, {4, 88, 66}, {5, 1111, 77}, {3, 70, 30}, {2, 7007, 33}, {4, 9, 9}, {3, 12, 34}};
        for (int[] one : all) {
            int most = Check.withHead("l5a2h3t12c1").way(one[0], Check.pair(one[1], one[2]), 1);
            for (int capacity : new int[] {1, 2, 3, 5, 6, 7, most - 2, most - 1}) {
                if (capacity >= 1) {
                    C.that("some slip", capacity >= most || answers(one[0], one[1], one[2], capacity) > 0);
                }
            }
        }
    }

    private static void moreThanCapacity() {
        C.sentence("at each ACT behind which more than CAPACITY is held (o digits above it)");
        int[][] all = {{0, 12, 12}, {1, 12, 34}, {2, 99, 99}, {3, 9999, 9999}, {4, 12, 34}, {5, 12, 34}, {6, 99, 12}};
        for (int[] one : all) {
            int ab = Check.pair(one[1], one[2]);
            int most = Check.withHead(HEAD).way(one[0], ab, 1);
            HeadReckons at = Check.withHead("l5a2h3t12c" + most);
            HeadReckons below = Check.withHead("l5a2h3t12c" + (most - 1));
            int wrong = 0;
            for (int seed = 0; seed < 500; seed++) {
                C.due("way " + one[0] + " with room for all, seed " + seed, at.answer(one[0], ab, seed), one[1] * one[2]);
                wrong += below.answer(one[0], ab, seed) == one[1] * one[2] ? 0 : 1;
            }
            C.that("way " + one[0] + " with one digit too few slips", wrong > 0);
        }
    }

    private static void noActLeftBehind() {
        C.sentence("AN ANSWER by a HEAD, WAY and SEED: ACTS in order, and none that another WAY made");
        for (int seed = 0; seed < 100; seed++) {
            HeadReckons x = Check.withHead("l5a2h3t12c1");
            x.way(2, 99999999, 0);
            C.due("one digit, CAPACITY 1, seed " + seed, x.answer(1, Check.pair(2, 3), seed), 6);
            x.answer(3, 99999999, seed);
            C.due("one digit again", x.answer(0, Check.pair(2, 3), seed), 6);
        }
    }

    private static void knownSlips() {
        C.sentence("a LOOK by the lesser of both figures (of KNOWN the lesser NUMBER), more, if (z >>> 20) % 2 is 1, else less");
        for (int[] pair : new int[][] {{12, 11}, {11, 12}, {12, 12}, {12, 1}}) {
            int product = pair[0] * pair[1];
            int lesser = Math.min(pair[0], pair[1]);
            int o = String.valueOf(product).length() - 1;
            for (int seed = -1000; seed <= 1000; seed++) {
                int z = seed * 1103515245 + 12345;
                int slip = (z >>> 8) % 100 >= 5 * o ? 0 : (z >>> 20) % 2 == 1 ? lesser : -lesser;
                HeadReckons x = Check.withHead("l5a2h3t12c1");
                C.due("KNOWN of " + pair[0] + " and " + pair[1], x.answer(0, Check.pair(pair[0], pair[1]), seed), product + slip);
            }
        }
    }

    private static void quickestWithin() {
        C.sentence("QUICKEST with so many digits (1 .. 99) at most. BAD; NOT.");
        HeadReckons x = Check.withHead(HEAD);
        for (int digits : new int[] {MIN, -1, 0, 100, 101, MAX}) {
            C.due("digits " + digits, x.quickest(0, 70008, digits), -1);
        }
        C.due("digits 1, and it holds 1", x.quickest(0, Check.pair(2, 3), 1), 0);
        C.due("digits 1, and it holds 2", x.quickest(0, Check.pair(2, 5), 1), -2);
        C.due("digits 2", x.quickest(0, Check.pair(2, 5), 2), 0);
        C.due("digits 98", x.quickest(0, Check.pair(2, 5), 98), 0);
        C.due("digits 99", x.quickest(0, Check.pair(2, 5), 99), 0);
        C.due("3 digits, by CROSSED in 37", x.quickest(0, Check.pair(12, 34), 3), 3);
        C.due("2 digits: no way", x.quickest(0, Check.pair(12, 34), 2), -2);
        for (int head : new int[] {MIN, -1, 1, 6, MAX}) {
            C.due("head " + head, x.quickest(head, 70008, 9), -1);
        }
    }

    private static void leastSeconds() {
        C.sentence("of WAYS 0 .. 6 the one with the least SECONDS, of like ones the first");
        String[] heads = {"l5a2h3t12c6", "l1a9h0t99c6", "l9a0h1t9c6", "l0a0h0t9c6", "l3a3h3t50c6", "l0a1h0t9c1"};
        int[] some = {1, 7, 12, 25, 60, 99, 304, 1001, 9999};
        for (String head : heads) {
            for (int a : some) {
                for (int b : some) {
                    HeadReckons x = Check.withHead(head);
                    int ab = Check.pair(a, b);
                    int[] seconds = new int[7];
                    int[] holds = new int[7];
                    for (int way = 0; way <= 6; way++) {
                        seconds[way] = x.way(way, ab, 0);
                        holds[way] = x.way(way, ab, 1);
                    }
                    for (int digits = 1; digits <= 27; digits++) {
                        int best = -2;
                        for (int way = 6; way >= 0; way--) {
                            boolean goes = seconds[way] >= 0 && holds[way] <= digits;
                            best = goes && (best < 0 || seconds[way] <= seconds[best]) ? way : best;
                        }
                        C.due(head + ": quickest of " + ab + " with " + digits, x.quickest(0, ab, digits), best);
                    }
                }
            }
        }
        HeadReckons like = Check.withHead("l0a0h0t9c6");
        C.due("all alike: KNOWN", like.quickest(0, Check.pair(9, 9), 99), 0);
        C.due("KNOWN is NOT: LEFT", like.quickest(0, Check.pair(10, 9), 99), 1);
        HeadReckons dear = Check.withHead("l1a9h0t9c6");
        C.due("SQUARED", dear.quickest(0, Check.pair(11, 29), 99), 4);
        C.due("SPLIT", dear.quickest(0, Check.pair(1, 12), 99), 5);
        C.due("CROSSED", dear.quickest(0, Check.pair(1, 11), 99), 3);
    }

    private static void tablesFrom9To99() {
        C.sentence("LEAST TABLE (9 .. 99) of a HEAD by which CHOSEN's SECONDS of a pair are so many at most; NOT.");
        HeadReckons x = Check.withHead(HEAD);
        Check.choice(x, "0");
        C.due("9 is the least", x.table(0, Check.pair(1, 1), 5), 9);
        C.due("9 by 9", x.table(0, Check.pair(9, 9), 5), 9);
        C.due("10 by 1", x.table(0, Check.pair(13, 10), 5), 13);
        C.due("98", x.table(0, Check.pair(98, 98), 5), 98);
        C.due("99 is the greatest", x.table(0, Check.pair(99, 99), 5), 99);
        C.due("100 by 99 is KNOWN by none", x.table(0, Check.pair(111, 99), 5), -2);
        C.due("99 by 100", x.table(0, Check.pair(99, 100), 5), -2);
        C.due("100 by 1 is LEFT of one LOOK", x.table(0, Check.pair(100, 1), 5), 9);
        C.due("100 by 11 takes two LOOKs and an ADD", x.table(0, Check.pair(100, 11), 5), -2);
        C.due("not in 4", x.table(0, Check.pair(99, 99), 4), -2);
        C.due("nor below 0", x.table(0, Check.pair(1, 1), -1), -2);
        C.due("nor so", x.table(0, Check.pair(1, 1), MIN), -2);
        C.due("in any", x.table(0, Check.pair(9999, 9999), MAX), 9);
        C.due("LEFT takes 38", x.table(0, Check.pair(12, 34), 38), 9);
        C.due("37: when it is KNOWN", x.table(0, Check.pair(12, 34), 37), 34);
        Check.choice(x, "t<99?1;3");
        C.due("the text sees 99", x.table(0, Check.pair(12, 34), 37), 99);
        Check.choice(x, "t>9?1;3");
        C.due("the text sees 9", x.table(0, Check.pair(12, 34), 37), 9);
        C.due("the TABLE of the HEAD stays", x.of(0, 3), 12);
        HeadReckons free = Check.withHead("l0a0h0t99c6");
        C.due("in 0", free.table(0, Check.pair(99, 99), 0), 9);
        for (int head : new int[] {MIN, -1, 1, 6, MAX}) {
            C.due("head " + head, x.table(head, 70008, 9), -1);
        }
        Check.head(x, "l1a0h0t9c6");
        Check.choice(x, "0");
        C.due("of HEAD 0, whose LOOK takes 5", x.table(0, Check.pair(13, 12), 4), -2);
        C.due("of HEAD 1, whose LOOK takes 1", x.table(1, Check.pair(13, 12), 4), 9);
        for (int i = 0; i < 3; i++) {
            x.ask(0, Check.pair(12, 13));
        }
        C.due("LEARNT by HEAD 0", x.table(0, Check.pair(13, 12), 5), 9);
        x.turn(0, 0, 6);
        C.due("HEAD 0 as it is now", x.table(0, Check.pair(13, 12), 5), -2);
        C.due("HEAD 1 did not learn it", x.table(1, Check.pair(13, 12), 3), 13);
    }

    public static void main(String[] args) {
        numbersTo9999();
        headsAndWays();
        tenTimesTheHead();
        whats();
        firstAndLastAct();
        lookedUp();
        sizesOfSums();
        runningOfNought();
        mostHeld();
        knownAlone();
        leftOfNoughts();
        oneRowAndMore();
        placesOfCrossed();
        figuresOfCrossed();
        goesOnByTen();
        likeAndUnlike();
        greatestFactor();
        turnedAbout();
        endAtTheProduct();
        draws();
        moreThanCapacity();
        noActLeftBehind();
        knownSlips();
        quickestWithin();
        leastSeconds();
        tablesFrom9To99();
        C.end();
    }
}
