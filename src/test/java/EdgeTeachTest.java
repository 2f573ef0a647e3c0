/** Edges of promises 20 to 25: asks told, what parts ways, pairs asked, asks that teach, orders. */
final class EdgeTeachTest {
    private static final Check C = new Check("EdgeTeachTest");
    private static final int MIN = Integer.MIN_VALUE, MAX = Integer.MAX_VALUE;
    /** LEFT of 13 and 17 takes 38 tenths by this head (four LOOKs, three ADDs of three digits), KNOWN 5. */
    private static final String HEAD = "l5a2h3t9c6";
    private static final int AB = 130017;

    private static HeadReckons knowing() {
        HeadReckons x = Check.withHead(HEAD);
        Check.choice(x, "0");
        return x;
    }

    private static void eightAsks() {
        C.sentence("An ask comes to the list: how many. BAD, FULL: 8.");
        HeadReckons x = new HeadReckons();
        for (int i = 1; i <= 8; i++) {
            C.due("BAD", x.tell(70000), -1);
            C.due("tell", x.tell(Check.pair(i, 9999)), i);
            C.due("count(3)", x.count(3), i);
        }
        C.due("the ninth", x.tell(70008), -3);
        C.due("the ninth again", x.tell(70008), -3);
        C.due("BAD is named ahead of FULL", x.tell(70000), -1);
        C.due("count(3)", x.count(3), 8);
        x.untell();
        C.due("an ask", x.tell(70008), 1);
        C.due("the same ask is one more", x.tell(70008), 2);
    }

    private static void emptyList() {
        C.sentence("The list is empty: how many it had.");
        for (int had = 0; had <= 8; had++) {
            HeadReckons x = Check.withHead(HEAD);
            for (int i = 0; i < had; i++) {
                x.tell(70008);
            }
            C.due("untell()", x.untell(), had);
            C.due("count(3)", x.count(3), 0);
            C.due("untell() again", x.untell(), 0);
            C.due("parts of none", x.parts(0, 127, 0), -5);
            C.due("one comes", x.tell(120012), 1);
            C.due("it is the first", x.parts(0, 2, 0), 0);
        }
    }

    private static void partsBounds() {
        C.sentence("PARTS: the ask (what 0), the difference (1). BAD; STATE: the list is empty; NOT: no WAY for any (WAYS may be none).");
        HeadReckons x = Check.withHead("l5a2h3t12c6");
        C.due("the list is empty", x.parts(0, 127, 0), -5);
        C.due("no WAYS, and the list is empty", x.parts(0, 0, 1), -5);
        C.due("BAD is named ahead of STATE", x.parts(0, 128, 0), -1);
        C.due("BAD is named ahead of STATE", x.parts(0, -1, 0), -1);
        C.due("BAD is named ahead of STATE", x.parts(0, 127, 2), -1);
        C.due("BAD is named ahead of STATE", x.parts(1, 127, 0), -1);
        x.tell(Check.pair(12, 34));
        for (int ways : new int[] {MIN, -128, -1, 128, 129, 255, MAX}) {
            C.due("ways " + ways, x.parts(0, ways, 0), -1);
        }
        for (int what : new int[] {MIN, -1, 2, 3, MAX}) {
            C.due("what " + what, x.parts(0, 127, what), -1);
        }
        for (int head : new int[] {MIN, -1, 1, 6, MAX}) {
            C.due("head " + head, x.parts(head, 127, 0), -1);
        }
        C.due("no WAYS", x.parts(0, 0, 0), -2);
        C.due("no WAYS", x.parts(0, 0, 1), -2);
        C.due("KNOWN is NOT", x.parts(0, 1, 0), -2);
        C.due("KNOWN is NOT", x.parts(0, 1, 1), -2);
        C.due("all WAYS: CROSSED 37, SQUARED 91", x.parts(0, 127, 1), 54);
        C.due("all but TURNED", x.parts(0, 63, 1), 54);
        C.due("TURNED 51 and LEFT 38", x.parts(0, 64 + 2, 1), 13);
        C.due("TURNED alone", x.parts(0, 64, 1), 0);
    }

    private static void greatestDifference() {
        C.sentence("the one for which the greatest SECONDS of told WAYS less the least are greatest (WAYS that are NOT left out)");
        for (int place = 0; place <= 7; place++) {
            HeadReckons x = Check.withHead("l5a2h3t12c6");
            for (int i = 0; i <= 7; i++) {
                x.tell(i == place ? Check.pair(12, 34) : Check.pair(12, 13));
            }
            C.due("SQUARED is for this one alone", x.parts(0, 16, 0), place);
            C.due("by itself", x.parts(0, 16, 1), 0);
            C.due("and LEFT: by 53", x.parts(0, 16 + 2, 0), place);
            C.due("by 53", x.parts(0, 16 + 2, 1), 53);
            C.due("LEFT is for all of them: the first", x.parts(0, 2, 0), 0);
        }
        C.sentence("of like ones the first; that difference");
        HeadReckons x = Check.withHead("l5a2h3t12c6");
        for (int ab : new int[] {120013, 120034, 120034, 120034}) {
            x.tell(ab);
        }
        C.due("the first of three", x.parts(0, 16 + 2, 0), 1);
        C.due("no WAY parts: the first", x.parts(0, 8, 0), 0);
        HeadReckons y = Check.withHead("l5a2h3t12c6");
        y.tell(Check.pair(13, 4));
        y.tell(Check.pair(7, 9));
        C.due("KNOWN 5 and RIGHT 11", y.parts(0, 1 + 4, 0), 1);
        C.due("by 6", y.parts(0, 1 + 4, 1), 6);
    }

    private static void numbersTo99() {
        C.sentence("each pair that is ASKED of a HEAD with both NUMBERS 99 at most counts one more");
        int[][] counted = {{1, 1}, {1, 99}, {99, 1}, {99, 99}, {98, 99}};
        int[][] not = {{1, 100}, {100, 1}, {99, 100}, {100, 99}, {100, 100}, {9999, 9999}, {1, 9999}};
        for (int[] pair : counted) {
            HeadReckons x = Check.withHead(HEAD);
            for (int count = 1; count <= 5; count++) {
                C.due(pair[0] + " and " + pair[1], x.ask(0, Check.pair(pair[0], pair[1])), count);
            }
            C.due("it is LEARNT", x.of(0, 5), 1);
        }
        for (int[] pair : not) {
            HeadReckons x = Check.withHead(HEAD);
            for (int count = 1; count <= 5; count++) {
                C.due(pair[0] + " and " + pair[1], x.ask(0, Check.pair(pair[0], pair[1])), 0);
            }
            C.due("none is LEARNT", x.of(0, 5), 0);
            C.due("none is LOOKED UP", x.way(0, Check.pair(pair[0], pair[1]), 0), -2);
        }
    }

    private static void learntAt3() {
        C.sentence("at 3 it is LEARNT (either way about)");
        HeadReckons x = knowing();
        int turned = Check.pair(17, 13);
        int[] learnt = {0, 0, 1, 1, 1};
        for (int i = 0; i < 5; i++) {
            C.due("its count", x.ask(0, i % 2 == 0 ? AB : turned), i + 1);
            C.due("LEARNT", x.of(0, 5), learnt[i]);
            C.due("LOOKED UP", x.way(0, AB, 0), learnt[i] == 1 ? 5 : -2);
            C.due("LOOKED UP turned", x.way(0, turned, 0), learnt[i] == 1 ? 5 : -2);
            C.due("chosen", x.chosen(0, AB), learnt[i] == 1 ? 0 : 1);
        }
        C.due("another pair is not", x.way(0, Check.pair(13, 18), 0), -2);
        C.due("another pair is not", x.way(0, Check.pair(13, 13), 0), -2);
        C.due("another pair is not", x.way(0, Check.pair(17, 17), 0), -2);
        HeadReckons both = Check.withHead(HEAD);
        for (int i = 0; i < 6; i++) {
            both.ask(0, i < 3 ? AB : Check.pair(4, 4));
        }
        C.due("one of the TABLE, too", both.of(0, 5), 2);
    }

    private static void sixtyPairs() {
        C.sentence("60 pairs at most are counted; more are not. (0: it is not counted; also with a NUMBER above 99). BAD.");
        HeadReckons x = Check.withHead(HEAD);
        Check.head(x, HEAD);
        for (int i = 1; i <= 60; i++) {
            C.due("pair " + i, x.ask(0, Check.pair(i, 99)), 1);
        }
        for (int i = 0; i < 4; i++) {
            C.due("the 61st", x.ask(0, Check.pair(61, 99)), 0);
            C.due("the 62nd", x.ask(0, Check.pair(99, 62)), 0);
            C.due("the first goes on", x.ask(0, Check.pair(99, 1)), 2 + i);
            C.due("the 60th goes on", x.ask(0, Check.pair(60, 99)), 2 + i);
        }
        C.due("two are LEARNT", x.of(0, 5), 2);
        C.due("the 61st is not LOOKED UP", x.way(0, Check.pair(61, 99), 0), -2);
        C.due("the 60th is", x.way(0, Check.pair(60, 99), 0), 5);
        C.due("the other HEAD counts its own", x.ask(1, Check.pair(61, 99)), 1);
        for (int head : new int[] {MIN, -1, 2, 6, MAX}) {
            C.due("head " + head, x.ask(head, 70008), -1);
        }
    }

    private static void allSixtyLearnt() {
        C.sentence("5 how many pairs are LEARNT");
        HeadReckons x = Check.withHead(HEAD);
        for (int time = 1; time <= 3; time++) {
            for (int i = 1; i <= 60; i++) {
                x.ask(0, Check.pair(i, 99));
            }
            C.due("LEARNT after " + time, x.of(0, 5), time < 3 ? 0 : 60);
        }
        x.ask(0, Check.pair(61, 99));
        C.due("60 at most", x.of(0, 5), 60);
    }

    private static void headsBeginUnasked() {
        C.sentence("each pair that is ASKED (by call) of a HEAD: of none that comes later, and not in thought");
        HeadReckons x = knowing();
        for (int i = 0; i < 3; i++) {
            x.ask(0, AB);
        }
        x.tell(Check.pair(23, 45));
        C.due("in thought", x.taught(0, 3, 1), 2);
        Check.head(x, HEAD);
        C.due("HEAD 1 has LEARNT nothing", x.of(1, 5), 0);
        C.due("its first count", x.ask(1, AB), 1);
        C.due("its first count", x.ask(1, Check.pair(23, 45)), 1);
        C.due("HEAD 0 has LEARNT one", x.of(0, 5), 1);
        C.due("a look is no ASK", x.chosen(0, Check.pair(23, 45)) + x.way(1, Check.pair(23, 45), 2), 1 + 7);
        C.due("its first count", x.ask(0, Check.pair(23, 45)), 1);
    }

    private static void taughtBounds() {
        C.sentence("TAUGHT n asks (1 .. 50): SECONDS (what 0), how many pairs are LEARNT then (1). BAD; STATE.");
        HeadReckons x = knowing();
        C.due("the list is empty", x.taught(0, 1, 0), -5);
        C.due("BAD is named ahead of STATE", x.taught(0, 0, 0), -1);
        C.due("BAD is named ahead of STATE", x.taught(0, 51, 0), -1);
        C.due("BAD is named ahead of STATE", x.taught(0, 1, 2), -1);
        C.due("BAD is named ahead of STATE", x.taught(1, 1, 0), -1);
        x.tell(AB);
        for (int n : new int[] {MIN, -1, 0, 51, 52, MAX}) {
            C.due("n " + n, x.taught(0, n, 0), -1);
        }
        for (int what : new int[] {MIN, -1, 2, 3, MAX}) {
            C.due("what " + what, x.taught(0, 1, what), -1);
        }
        for (int head : new int[] {MIN, -1, 1, 6, MAX}) {
            C.due("head " + head, x.taught(head, 1, 0), -1);
        }
        int[][] all = {{1, 38, 0}, {2, 76, 0}, {3, 114, 1}, {4, 119, 1}, {49, 114 + 46 * 5, 1}, {50, 114 + 47 * 5, 1}};
        for (int[] one : all) {
            C.due("SECONDS of " + one[0], x.taught(0, one[0], 0), one[1]);
            C.due("LEARNT by " + one[0], x.taught(0, one[0], 1), one[2]);
        }
    }

    private static void againAndAgain() {
        C.sentence("TAUGHT in order again and again n times (1 .. 50 asks in all): SECONDS in all, each by CHOSEN as it is then");
        HeadReckons x = knowing();
        int[] seconds = new int[8];
        int[] pairs = {130017, 200030, 990099, 110012, 100014, 980076, 300033, 120099};
        for (int i = 0; i <= 7; i++) {
            seconds[i] = x.way(1, pairs[i], 0);
            x.tell(pairs[i]);
        }
        int sum = 0;
        for (int n = 1; n <= 50; n++) {
            sum += n <= 24 ? seconds[(n - 1) % 8] : 5;
            C.due("SECONDS of " + n, x.taught(0, n, 0), sum);
            C.due("LEARNT by " + n, x.taught(0, n, 1), n < 17 ? 0 : Math.min(8, n - 16));
        }
        C.due("in thought alone", x.of(0, 5), 0);
        C.due("no count either", x.ask(0, AB), 1);
    }

    private static void countedAhead() {
        C.sentence("how many are LEARNT then (in thought)");
        HeadReckons x = knowing();
        x.tell(AB);
        x.tell(Check.pair(4, 4));
        x.ask(0, AB);
        x.ask(0, AB);
        C.due("its third ask still takes 38", x.taught(0, 1, 0), 38);
        C.due("LEARNT by it", x.taught(0, 1, 1), 1);
        C.due("its fourth 5", x.taught(0, 3, 0), 38 + 5 + 5);
        C.due("not the second one yet", x.taught(0, 5, 1), 1);
        C.due("the second one, too", x.taught(0, 6, 1), 2);
        x.ask(0, AB);
        C.due("LEARNT ahead", x.taught(0, 1, 0), 5);
        x.untell();
        x.tell(Check.pair(4, 4));
        C.due("what is not on the list stays LEARNT", x.taught(0, 1, 1), 1);
    }

    private static void noRoomInThought() {
        C.sentence("60 pairs at most are counted; more are not: in thought, too");
        for (int ahead = 58; ahead <= 60; ahead++) {
            HeadReckons x = knowing();
            for (int i = 1; i <= ahead; i++) {
                x.ask(0, Check.pair(1, i));
            }
            x.tell(AB);
            x.tell(Check.pair(31, 71));
            int room = 60 - ahead;
            int wide = x.way(1, Check.pair(31, 71), 0);
            C.due("LEARNT with room for " + room, x.taught(0, 6, 1), Math.min(2, room));
            C.due("SECONDS with room for " + room, x.taught(0, 8, 0),
                    3 * 38 + 3 * wide + (room > 0 ? 5 : 38) + (room > 1 ? 5 : wide));
            C.due("an order, too", x.first(0, 1), 3 * 38 + 3 * wide);
        }
    }

    private static void above99() {
        C.sentence("BAD (also a NUMBER above 99 on the list)");
        for (int place = 0; place <= 7; place++) {
            for (int ab : new int[] {1000001, 10100, 1000100, 990100, 1000099, 99999999}) {
                HeadReckons x = knowing();
                for (int i = 0; i <= 7; i++) {
                    x.tell(i == place ? ab : 990099);
                }
                C.due("taught by " + ab + " at " + place, x.taught(0, 1, 0), -1);
                C.due("LEARNT by it", x.taught(0, 1, 1), -1);
                C.due("first by it", x.first(0, 0), -1);
                C.due("its SECONDS", x.first(0, 1), -1);
                C.due("it parts", x.parts(0, 2, 0), 0);
                x.untell();
                x.tell(990099);
                C.that("99 by 99", x.taught(0, 1, 0) > 0 && x.first(0, 0) == 1);
            }
        }
    }

    private static void firstBounds() {
        C.sentence("FIRST order: digits (what 0: places and 1, the first the highest), SECONDS (1). BAD, STATE likewise.");
        HeadReckons x = knowing();
        C.due("the list is empty", x.first(0, 0), -5);
        C.due("the list is empty", x.first(0, 1), -5);
        C.due("BAD is named ahead of STATE", x.first(0, 2), -1);
        C.due("BAD is named ahead of STATE", x.first(1, 0), -1);
        x.tell(AB);
        for (int what : new int[] {MIN, -1, 2, 3, MAX}) {
            C.due("what " + what, x.first(0, what), -1);
        }
        for (int head : new int[] {MIN, -1, 1, 6, MAX}) {
            C.due("head " + head, x.first(head, 0), -1);
        }
        C.due("one ask", x.first(0, 0), 1);
        C.due("three times", x.first(0, 1), 3 * 38);
        C.due("in thought alone", x.of(0, 5), 0);
        C.due("no count either", x.ask(0, AB), 1);
    }

    private static void firstFive() {
        C.sentence("of all orders of the first 5 of them (once through, 3 times each one behind the other: 111222..)");
        int[] digits = {1, 12, 123, 1234, 12345, 12345, 12345, 12345};
        int[] pairs = {130017, 200030, 990099, 110012, 100014, 980076, 300033, 120099};
        HeadReckons x = knowing();
        int sum = 0;
        for (int i = 0; i <= 7; i++) {
            x.tell(pairs[i]);
            sum += i < 5 ? 3 * x.way(1, pairs[i], 0) : 0;
            C.due("of like ones the first as digits, of " + (i + 1), x.first(0, 0), digits[i]);
            C.due("SECONDS of " + (i + 1), x.first(0, 1), sum);
        }
        HeadReckons y = knowing();
        for (int i = 0; i < 6; i++) {
            y.tell(i % 2 == 0 ? AB : Check.pair(17, 13));
        }
        C.due("three times, then it is LEARNT", y.first(0, 1), 3 * 38 + 4 * 3 * 5);
    }

    /** One count is free: who comes first is LEARNT, and the dearest pair is told twice, here at each two places. */
    private static void leastOrder() {
        C.sentence("that with the least SECONDS in all; of like ones the first as digits");
        for (int one = 0; one <= 4; one++) {
            for (int other = one + 1; other <= 4; other++) {
                HeadReckons x = knowing();
                for (int i = 1; i <= 59; i++) {
                    x.ask(0, Check.pair(1, i));
                }
                int[] pairs = {310071, 320072, 330073, 340074, 350075};
                int seconds = 3 * 5;
                for (int i = 0; i <= 4; i++) {
                    x.tell(i == one ? 980097 : i == other ? 970098 : pairs[i]);
                    seconds += i == other ? 0 : 3 * x.way(1, i == one ? 980097 : pairs[i], 0);
                }
                String rest = "12345".replace(String.valueOf(one + 1), "");
                C.due("the dear one ahead of all, at " + one + " and " + other, x.first(0, 0), Integer.parseInt(one + 1 + rest));
                C.due("its SECONDS", x.first(0, 1), seconds);
            }
        }
    }

    /** By this text a pair told lesser figure first takes RIGHT, LEARNT or not, and teaches what is told the other way about. */
    private static void dearAhead(int digits, int... pairs) {
        HeadReckons x = Check.withHead(HEAD);
        Check.choice(x, "x<y?2;0");
        int seconds = 0;
        for (int ab : pairs) {
            x.tell(ab);
            boolean isDear = ab / 10000 % 10 < ab % 10;
            seconds += 3 * (isDear ? x.way(2, ab, 0) : 5);
        }
        C.due("the least order", x.first(0, 0), digits);
        C.due("its SECONDS", x.first(0, 1), seconds);
    }

    private static void teachersAhead() {
        C.sentence("of all orders: those from the first on, and those from the last on");
        int p = Check.pair(13, 17);
        int pTurned = Check.pair(17, 13);
        int q = Check.pair(24, 88);
        int qTurned = Check.pair(88, 24);
        dearAhead(12, p, pTurned);
        dearAhead(21, pTurned, p);
        dearAhead(312, pTurned, pTurned, p);
        dearAhead(4123, pTurned, pTurned, pTurned, p);
        dearAhead(51234, pTurned, pTurned, pTurned, pTurned, p);
        dearAhead(12345, p, pTurned, pTurned, pTurned, pTurned);
        dearAhead(34152, pTurned, qTurned, Check.pair(5, 5), p, q);
        dearAhead(21345, qTurned, q, p, pTurned, pTurned);
    }

    public static void main(String[] args) {
        eightAsks();
        emptyList();
        partsBounds();
        greatestDifference();
        numbersTo99();
        learntAt3();
        sixtyPairs();
        allSixtyLearnt();
        headsBeginUnasked();
        taughtBounds();
        againAndAgain();
        countedAhead();
        noRoomInThought();
        above99();
        firstBounds();
        firstFive();
        leastOrder();
        teachersAhead();
        C.end();
    }
}
