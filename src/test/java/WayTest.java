/** Promises 7, 8, 10, 11, 12: ways, their acts, answers with slips, the quickest, the least table. */
final class WayTest {
    private static final Check C = new Check("WayTest");
    private static final int L = 0, A = 1, H = 2;

    /** Rows of acts: sort, number, digits held behind. The head: l 5, a 2, h 3, t 12, c 3. */
    private static void rows(int way, int a, int b, int[][] rows) {
        HeadReckons x = Check.withHead("l5a2h3t12c3");
        int ab = Check.pair(a, b);
        String name = "way " + way + " of " + a + " and " + b;
        int seconds = 0;
        int holds = 0;
        for (int i = 0; i < rows.length; i++) {
            int digits = String.valueOf(rows[i][1]).length();
            int length = rows[i][0] == L ? 5 : rows[i][0] == A ? 2 * digits : 3 * digits;
            C.due(name + " sort " + i, x.step(way, ab, i, 0), rows[i][0]);
            C.due(name + " number " + i, x.step(way, ab, i, 1), rows[i][1]);
            C.due(name + " length " + i, x.step(way, ab, i, 2), length);
            C.due(name + " held " + i, x.step(way, ab, i, 3), rows[i][2]);
            seconds += length;
            holds = Math.max(holds, rows[i][2]);
        }
        C.due(name + " behind the last", x.step(way, ab, rows.length, 0), -2000000000);
        C.due(name + " seconds", x.way(way, ab, 0), seconds);
        C.due(name + " holds", x.way(way, ab, 1), holds);
        C.due(name + " acts", x.way(way, ab, 2), rows.length);
    }

    private static void eachWay() {
        rows(0, 12, 12, new int[][] {{L, 144, 3}});
        rows(1, 12, 34, new int[][] {{L, 300, 3}, {L, 40, 3}, {A, 340, 3}, {L, 60, 3}, {A, 400, 3}, {L, 8, 3}, {A, 408, 3}});
        rows(2, 12, 34, new int[][] {{L, 40, 2}, {L, 8, 2}, {A, 48, 2}, {H, 48, 2}, {L, 300, 5}, {L, 60, 5}, {A, 360, 5},
            {H, 360, 5}, {A, 408, 3}});
        rows(3, 12, 34, new int[][] {{L, 8, 1}, {H, 8, 1}, {L, 6, 1}, {A, 6, 2}, {L, 4, 2}, {A, 10, 3}, {H, 0, 3}, {L, 3, 3},
            {A, 4, 3}, {H, 4, 3}});
        rows(4, 12, 34, new int[][] {{L, 400, 3}, {L, 60, 3}, {A, 460, 3}, {L, 60, 3}, {A, 520, 3}, {L, 9, 3}, {A, 529, 3},
            {H, 529, 3}, {L, 100, 6}, {L, 10, 6}, {A, 110, 6}, {L, 10, 6}, {A, 120, 6}, {L, 1, 6}, {A, 121, 6}, {A, 408, 3}});
        rows(5, 12, 34, new int[][] {{L, 20, 2}, {L, 4, 2}, {A, 24, 2}, {H, 24, 2}, {L, 200, 5}, {L, 140, 5}, {A, 340, 5},
            {L, 40, 5}, {A, 380, 5}, {L, 28, 5}, {A, 408, 5}});
        rows(6, 12, 34, new int[][] {{L, 60, 2}, {L, 8, 2}, {A, 68, 2}, {H, 68, 2}, {L, 300, 5}, {L, 40, 5}, {A, 340, 5},
            {H, 340, 5}, {A, 408, 3}});
    }

    private static void noughts() {
        rows(1, 10, 20, new int[][] {{L, 200, 3}});
        rows(1, 105, 30, new int[][] {{L, 3000, 4}, {L, 150, 4}, {A, 3150, 4}});
        rows(2, 105, 30, new int[][] {{L, 3000, 4}, {L, 150, 4}, {A, 3150, 4}, {H, 3150, 4}});
        rows(2, 2, 111, new int[][] {{L, 2, 1}, {H, 2, 1}, {L, 20, 3}, {H, 20, 3}, {L, 200, 6}, {H, 200, 6}, {A, 22, 5},
            {A, 222, 3}});
        rows(3, 10, 10, new int[][] {{H, 0, 1}, {H, 0, 2}, {L, 1, 3}, {H, 1, 3}});
        rows(3, 1, 1, new int[][] {{L, 1, 1}, {H, 1, 1}});
        rows(3, 99, 9, new int[][] {{L, 81, 2}, {H, 1, 2}, {L, 81, 2}, {A, 89, 3}, {H, 9, 3}});
        rows(3, 11, 101, new int[][] {{L, 1, 1}, {H, 1, 1}, {L, 1, 1}, {A, 1, 2}, {H, 1, 2}, {L, 1, 2}, {A, 1, 3}, {H, 1, 3},
            {L, 1, 3}, {A, 1, 4}, {H, 1, 4}});
        rows(4, 7, 7, new int[][] {{L, 49, 2}, {H, 49, 2}, {A, 49, 2}});
        rows(4, 1, 3, new int[][] {{L, 4, 1}, {H, 4, 1}, {L, 1, 2}, {A, 3, 1}});
        rows(5, 7, 12, new int[][] {{L, 42, 2}, {H, 42, 2}, {L, 80, 4}, {L, 4, 4}, {A, 84, 4}});
        rows(5, 3, 24, new int[][] {{L, 30, 2}, {L, 6, 2}, {A, 36, 2}, {H, 36, 2}, {L, 60, 4}, {L, 12, 4}, {A, 72, 4}});
        rows(6, 105, 30, new int[][] {{L, 150, 3}, {H, 150, 3}, {L, 3000, 7}, {H, 3000, 7}, {A, 3150, 4}});
    }

    private static void ofAnyHead() {
        HeadReckons x = Check.withHead("l5a2h3t12c3");
        for (int head = 1; head < 6; head++) {
            Check.head(x, "l" + 10 * head + "a0h0t" + (12 + head) + "c40");
        }
        for (int head = 0; head < 6; head++) {
            int look = head == 0 ? 5 : 10 * head;
            C.due("step of head " + head, x.step(10 * head + 1, Check.pair(12, 34), 1, 2), look);
            C.due("way of head " + head, x.way(10 * head + 3, Check.pair(12, 34), 0), head == 0 ? 37 : 4 * look);
            C.due("known by head " + head, x.way(10 * head, Check.pair(12 + head, 2), 2), 1);
            C.due("not known by head " + head, x.way(10 * head, Check.pair(13 + head, 2), 2), -2);
            C.due("acts by way 6 of head " + head, x.step(10 * head + 6, Check.pair(12, 34), 0, 1), 60);
        }
        C.due("no head 6", x.way(61, 70008, 0), -1);
    }

    private static void notAndBad() {
        HeadReckons x = Check.withHead("l5a2h3t12c3");
        C.due("13 above the table", x.way(0, Check.pair(13, 2), 0), -2);
        C.due("either above", x.way(0, Check.pair(2, 13), 2), -2);
        C.due("unlike", x.way(4, Check.pair(2, 13), 1), -2);
        C.due("a prime above the table", x.way(5, Check.pair(2, 13), 0), -2);
        C.due("a prime in the table", x.way(5, Check.pair(2, 11), 0), -2);
        C.due("b is 1", x.way(5, Check.pair(2, 1), 0), -2);
        C.due("twice 13 goes", x.way(5, Check.pair(2, 26), 2), 5);
        C.due("13 times 13 does not", x.way(5, Check.pair(2, 169), 0), -2);
        C.due("step of NOT", x.step(0, Check.pair(13, 2), 0, 0), -2000000000);
        C.due("answer of NOT", x.answer(4, Check.pair(2, 13), 1), -2000000000);
        int[] wrongWays = {-1, -10, 7, 8, 9, 10, 16, 60, Integer.MAX_VALUE, Integer.MIN_VALUE};
        for (int hw : wrongWays) {
            C.due("way of " + hw, x.way(hw, 70008, 0), -1);
            C.due("step of " + hw, x.step(hw, 70008, 0, 0), -2000000000);
            C.due("answer of " + hw, x.answer(hw, 70008, 0), -2000000000);
        }
        int[] wrongPairs = {0, 1, 9999, 10000, 99990000, 100000000, 100000001, -1, -70008, Integer.MAX_VALUE, Integer.MIN_VALUE};
        for (int ab : wrongPairs) {
            C.due("way of pair " + ab, x.way(1, ab, 0), -1);
            C.due("step of pair " + ab, x.step(1, ab, 0, 0), -2000000000);
            C.due("answer of pair " + ab, x.answer(1, ab, 0), -2000000000);
            C.due("quickest of pair " + ab, x.quickest(0, ab, 9), -1);
            C.due("table of pair " + ab, x.table(0, ab, 9), -1);
        }
        C.due("way what -1", x.way(1, 70008, -1), -1);
        C.due("way what 3", x.way(1, 70008, 3), -1);
        C.due("BAD is told ahead of NOT", x.way(0, Check.pair(13, 2), 3), -1);
        C.due("step what -1", x.step(1, 70008, 0, -1), -2000000000);
        C.due("step what 4", x.step(1, 70008, 0, 4), -2000000000);
        C.due("step -1", x.step(1, 70008, -1, 0), -2000000000);
        C.due("the greatest pair", x.way(1, 99999999, 2), 31);
    }

    /** The last act's number is the product, but where what is left stands in front or is held. */
    private static void allEndAtTheProduct() {
        int[] some = {1, 2, 9, 10, 42, 90, 100, 101, 808, 999, 1000, 2468, 9090, 9999};
        for (int a : some) {
            for (int b : some) {
                HeadReckons x = Check.withHead("l5a2h3t99c3");
                int ab = Check.pair(a, b);
                for (int way : new int[] {0, 1, 4, 5}) {
                    int acts = x.way(way, ab, 2);
                    if (acts > 0) {
                        C.due("end of " + way + " of " + ab, x.step(way, ab, acts - 1, 1), a * b);
                    }
                }
            }
        }
    }

    /** One draw, told as the document tells it. */
    private static int drawn(int seed, int draws) {
        int z = seed;
        for (int i = 0; i < draws; i++) {
            z = z * 1103515245 + 12345;
        }
        return z;
    }

    private static int lookSlip(int z, int above, int lesser) {
        if ((z >>> 8) % 100 >= Math.min(95, 5 * above)) {
            return 0;
        }
        return (z >>> 20) % 2 == 1 ? lesser : -lesser;
    }

    private static int addSlip(int z, int above, int size, int unit) {
        if ((z >>> 8) % 100 >= Math.min(95, 5 * above)) {
            return 0;
        }
        int power = (z >>> 20) % size;
        return -unit * (power == 0 ? 1 : power == 1 ? 10 : power == 2 ? 100 : 1000);
    }

    private static void answers() {
        for (int seed = -300; seed <= 300; seed++) {
            HeadReckons x = Check.withHead("l5a2h3t12c1");
            HeadReckons roomy = Check.withHead("l5a2h3t12c6");
            int known = lookSlip(drawn(seed, 1), 2, 11);
            C.due("KNOWN slips by the lesser number", x.answer(0, Check.pair(12, 11), seed), 132 + known);
            int left = lookSlip(drawn(seed, 1), 2, 100) + lookSlip(drawn(seed, 2), 2, 10) + addSlip(drawn(seed, 3), 2, 3, 1)
                    + lookSlip(drawn(seed, 4), 2, 20) + addSlip(drawn(seed, 5), 2, 3, 1) + lookSlip(drawn(seed, 6), 2, 2)
                    + addSlip(drawn(seed, 7), 2, 3, 1);
            C.due("LEFT by seed " + seed, x.answer(1, Check.pair(12, 34), seed), 408 + left);
            int crossed = addSlip(drawn(seed, 1), 1, 1, 10) + lookSlip(drawn(seed, 2), 1, 10)
                    + addSlip(drawn(seed, 3), 2, 2, 10) + lookSlip(drawn(seed, 5), 2, 100)
                    + addSlip(drawn(seed, 6), 2, 1, 100);
            C.due("CROSSED by seed " + seed, x.answer(3, Check.pair(12, 34), seed), 408 + crossed);
            C.due("SQUARED of 5 and 7", x.answer(4, Check.pair(5, 7), seed), 35 + lookSlip(drawn(seed, 1), 1, 6)
                    + lookSlip(drawn(seed, 3), 2, 1) + addSlip(drawn(seed, 4), 1, 2, 1));
            C.due("room for all", roomy.answer(2, Check.pair(12, 34), seed), 408);
        }
        HeadReckons tight = Check.withHead("l5a2h3t12c1");
        int slips = 0;
        for (int seed = 1; seed <= 200; seed++) {
            slips += tight.answer(5, Check.pair(9999, 9900), seed) == 9999 * 9900 ? 0 : 1;
        }
        C.that("who holds little slips nearly always", slips > 180);
    }

    private static void quickest() {
        HeadReckons x = Check.withHead("l5a2h3t12c3");
        C.due("KNOWN", x.quickest(0, Check.pair(12, 12), 3), 0);
        C.due("KNOWN holds too much", x.quickest(0, Check.pair(12, 12), 2), -2);
        C.due("CROSSED at 37", x.quickest(0, Check.pair(12, 34), 99), 3);
        C.due("CROSSED holds 3", x.quickest(0, Check.pair(12, 34), 3), 3);
        C.due("no way holds 2", x.quickest(0, Check.pair(12, 34), 2), -2);
        HeadReckons none = Check.withHead("l0a0h0t9c3");
        C.due("of like ones the first", none.quickest(0, Check.pair(13, 17), 99), 1);
        HeadReckons slow = Check.withHead("l9a9h0t9c3");
        C.due("RIGHT where holds are free", slow.quickest(0, Check.pair(99, 99), 99), 3);
        C.due("digits 0", x.quickest(0, 70008, 0), -1);
        C.due("digits 100", x.quickest(0, 70008, 100), -1);
        C.due("head 1", x.quickest(1, 70008, 9), -1);
    }

    private static void leastTable() {
        HeadReckons x = Check.withHead("l5a2h3t20c3");
        C.due("LEFT takes 38 with any table", x.table(0, Check.pair(12, 34), 38), 9);
        C.due("37 by none", x.table(0, Check.pair(12, 34), 37), -2);
        Check.choice(x, "0");
        C.due("known from 34 on", x.table(0, Check.pair(12, 34), 37), 34);
        C.due("known in 5", x.table(0, Check.pair(12, 34), 5), 34);
        C.due("not in 4", x.table(0, Check.pair(12, 34), 4), -2);
        C.due("99 is still a table", x.table(0, Check.pair(99, 99), 5), 99);
        C.due("100 is none", x.table(0, Check.pair(100, 23), 5), -2);
        C.due("tenths below 0", x.table(0, Check.pair(2, 2), -5), -2);
        C.due("any tenths", x.table(0, Check.pair(9999, 9999), Integer.MAX_VALUE), 9);
        Check.choice(x, "t<50?1;3");
        C.due("the text sees the table thought of", x.table(0, Check.pair(12, 34), 37), 50);
        C.due("the table itself stays", x.of(0, 3), 20);
        C.due("head 1", x.table(1, 70008, 9), -1);
        Check.choice(x, "0");
        for (int i = 0; i < 3; i++) {
            x.ask(0, Check.pair(34, 12));
        }
        C.due("what is learnt needs no table", x.table(0, Check.pair(12, 34), 5), 9);
    }

    public static void main(String[] args) {
        eachWay();
        noughts();
        ofAnyHead();
        notAndBad();
        allEndAtTheProduct();
        answers();
        quickest();
        leastTable();
        C.end();
    }
}
