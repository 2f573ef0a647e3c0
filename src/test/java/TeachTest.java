/** Promises 20 to 25: asks told, what parts ways, asks that teach, orders. */
final class TeachTest {
    private static final Check C = new Check("TeachTest");

    private static void list() {
        HeadReckons x = new HeadReckons();
        for (int i = 1; i <= 8; i++) {
            C.due("tell", x.tell(Check.pair(i, 9999)), i);
            C.due("count(3)", x.count(3), i);
        }
        C.due("the ninth", x.tell(70008), -3);
        C.due("BAD ahead of FULL", x.tell(70000), -1);
        C.due("untell()", x.untell(), 8);
        C.due("count(3)", x.count(3), 0);
        C.due("untell() again", x.untell(), 0);
        int[] wrong = {0, 8, 70000, -70008, 100000001, Integer.MIN_VALUE, Integer.MAX_VALUE};
        for (int ab : wrong) {
            C.due("tell(" + ab + ")", x.tell(ab), -1);
        }
        C.due("tell", x.tell(99999999), 1);
    }

    private static void parts() {
        HeadReckons x = Check.withHead("l5a2h3t12c3");
        C.due("no list", x.parts(0, 127, 0), -5);
        C.due("no list, no ways", x.parts(0, 0, 0), -5);
        C.due("BAD ahead of STATE", x.parts(0, 128, 0), -1);
        x.tell(Check.pair(12, 13));
        x.tell(Check.pair(12, 34));
        x.tell(Check.pair(12, 34));
        C.due("LEFT 38, RIGHT 51", x.parts(0, 6, 1), 13);
        C.due("of like ones the first", x.parts(0, 1 << 1 | 1 << 4, 0), 1);
        C.due("SQUARED 91, LEFT 38", x.parts(0, 1 << 1 | 1 << 4, 1), 53);
        C.due("all: CROSSED 37", x.parts(0, 127, 1), 54);
        C.due("a way alone parts by nothing", x.parts(0, 2, 1), 0);
        C.due("the first of them", x.parts(0, 2, 0), 0);
        C.due("SQUARED alone: NOT for the first ask", x.parts(0, 16, 0), 1);
        C.due("KNOWN for none", x.parts(0, 1, 0), -2);
        C.due("KNOWN for none", x.parts(0, 1, 1), -2);
        C.due("no ways", x.parts(0, 0, 0), -2);
        x.untell();
        x.tell(Check.pair(9, 9));
        C.due("KNOWN 5, RIGHT 11", x.parts(0, 5, 1), 6);
        C.due("ways -1", x.parts(0, -1, 0), -1);
        C.due("ways 128", x.parts(0, 128, 0), -1);
        C.due("what 2", x.parts(0, 127, 2), -1);
        C.due("what -1", x.parts(0, 127, -1), -1);
        C.due("head 1", x.parts(1, 127, 0), -1);
        C.due("head -1", x.parts(-1, 127, 0), -1);
    }

    private static void asked() {
        HeadReckons x = Check.withHead("l5a2h3t9c3");
        Check.head(x, "l5a2h3t9c3");
        int ab = Check.pair(13, 17);
        C.due("not looked up", x.way(0, ab, 0), -2);
        C.due("1", x.ask(0, ab), 1);
        C.due("either way about", x.ask(0, Check.pair(17, 13)), 2);
        C.due("not looked up by 2", x.way(0, ab, 0), -2);
        C.due("3", x.ask(0, ab), 3);
        C.due("looked up", x.way(0, ab, 0), 5);
        C.due("looked up turned", x.way(0, Check.pair(17, 13), 0), 5);
        C.due("not by the other head", x.way(10, ab, 0), -2);
        C.due("the other's count", x.ask(1, ab), 1);
        C.due("4", x.ask(0, ab), 4);
        C.due("of(0, 5)", x.of(0, 5), 1);
        C.due("of(1, 5)", x.of(1, 5), 0);
        C.due("99 is counted", x.ask(0, 990099), 1);
        C.due("100 is not", x.ask(0, Check.pair(100, 2)), 0);
        C.due("nor behind", x.ask(0, Check.pair(2, 100)), 0);
        C.due("BAD", x.ask(0, 70000), -1);
        C.due("BAD", x.ask(2, 70008), -1);
        C.due("BAD", x.ask(-1, 70008), -1);
        Check.choice(x, "0");
        C.due("chosen, as it is learnt", x.chosen(0, ab), 0);
        C.due("not by the other", x.chosen(1, ab), 1);
    }

    private static void sixtyPairs() {
        HeadReckons x = Check.withHead("l5a2h3t9c3");
        Check.head(x, "l5a2h3t9c3");
        for (int i = 1; i <= 60; i++) {
            C.due("pair " + i, x.ask(0, Check.pair(i, 99)), 1);
        }
        C.due("the 61st", x.ask(0, Check.pair(61, 99)), 0);
        C.due("the 60th goes on", x.ask(0, Check.pair(99, 60)), 2);
        C.due("the first goes on", x.ask(0, Check.pair(1, 99)), 2);
        C.due("the other head counts its own", x.ask(1, Check.pair(61, 99)), 1);
        x.tell(Check.pair(61, 99));
        x.tell(Check.pair(60, 99));
        C.due("in thought, too, 60 at most", x.taught(0, 50, 1), 1);
        x.untell();
        x.tell(Check.pair(60, 99));
        C.due("learnt in thought", x.taught(0, 1, 1), 1);
    }

    /** LEFT of 13 and 17 takes 38 (four LOOKs, three ADDs of 3 digits), KNOWN 5. */
    private static void taught() {
        HeadReckons x = Check.withHead("l5a2h3t9c3");
        Check.choice(x, "0");
        C.due("no list", x.taught(0, 5, 0), -5);
        C.due("BAD ahead of STATE", x.taught(0, 0, 0), -1);
        x.tell(Check.pair(13, 17));
        C.due("once", x.taught(0, 1, 0), 38);
        C.due("thrice", x.taught(0, 3, 0), 3 * 38);
        C.due("nothing is learnt by 2", x.taught(0, 2, 1), 0);
        C.due("it is by 3", x.taught(0, 3, 1), 1);
        C.due("then it is known", x.taught(0, 4, 0), 3 * 38 + 5);
        C.due("fifty", x.taught(0, 50, 0), 3 * 38 + 47 * 5);
        C.due("in thought alone", x.of(0, 5), 0);
        C.due("and no count", x.ask(0, Check.pair(13, 17)), 1);
        C.due("asked once, it is learnt sooner", x.taught(0, 4, 0), 2 * 38 + 2 * 5);
        x.tell(Check.pair(17, 13));
        C.due("either way about, in turn", x.taught(0, 4, 0), 2 * 38 + 2 * 5);
        x.tell(Check.pair(2, 3));
        C.due("the table's are known", x.taught(0, 3, 0), 2 * 38 + 5);
        C.due("again and again", x.taught(0, 7, 1), 1);
        C.due("the table's are learnt, too", x.taught(0, 9, 1), 2);
        C.due("n 51", x.taught(0, 51, 0), -1);
        C.due("n -1", x.taught(0, -1, 0), -1);
        C.due("what 2", x.taught(0, 5, 2), -1);
        C.due("what -1", x.taught(0, 5, -1), -1);
        C.due("head 1", x.taught(1, 5, 0), -1);
        x.tell(Check.pair(100, 3));
        C.due("100 on the list", x.taught(0, 1, 0), -1);
        C.due("for an order, too", x.first(0, 0), -1);
    }

    private static void orders() {
        HeadReckons x = Check.withHead("l5a2h3t9c3");
        C.due("no list", x.first(0, 0), -5);
        C.due("BAD ahead of STATE", x.first(0, 2), -1);
        C.due("head 1", x.first(1, 0), -1);
        C.due("what -1", x.first(0, -1), -1);
        Check.choice(x, "0");
        x.tell(Check.pair(13, 17));
        C.due("one ask", x.first(0, 0), 1);
        C.due("its seconds", x.first(0, 1), 3 * 38);
        x.tell(Check.pair(2, 3));
        C.due("like ones: the first as digits", x.first(0, 0), 12);
        C.due("seconds", x.first(0, 1), 3 * 38 + 3 * 5);
        x.tell(Check.pair(5, 5));
        x.tell(Check.pair(6, 5));
        x.tell(Check.pair(7, 5));
        x.tell(Check.pair(99, 99));
        C.due("the first five alone", x.first(0, 0), 12345);
        C.due("their seconds", x.first(0, 1), 3 * 38 + 12 * 5);
        C.due("in thought alone", x.of(0, 5), 0);
        x.untell();
        x.tell(Check.pair(98, 76));
        x.tell(Check.pair(98, 76));
        C.due("known by its first three", x.first(0, 1), 3 * (4 * 5 + 3 * 2 * 4) + 3 * 5);
    }

    /** A pair that two places tell: by the way that the text chooses for b ahead of a it is dearer. */
    private static void dearerFirst() {
        HeadReckons x = Check.withHead("l5a2h3t9c3");
        Check.choice(x, "x<y?3;0");
        int[] pairs = {Check.pair(13, 17), Check.pair(17, 13)};
        for (int pair : pairs) {
            x.tell(pair);
        }
        int crossed = x.way(3, pairs[0], 0);
        int left = 38;
        int first = 3 * crossed + 3 * 5;
        int second = 3 * left + 3 * crossed;
        C.due("the order of least seconds", x.first(0, 0), first <= second ? 12 : 21);
        C.due("its seconds", x.first(0, 1), Math.min(first, second));
        HeadReckons y = Check.withHead("l5a2h3t9c3");
        Check.choice(y, "x<y?3;0");
        y.tell(pairs[1]);
        y.tell(pairs[0]);
        C.due("told the other way about", y.first(0, 0), first < second ? 21 : 12);
    }

    /** Only the last free count is left: the pair that is taught ahead takes it. */
    private static void lastCount() {
        HeadReckons x = Check.withHead("l5a2h3t9c3");
        Check.choice(x, "0");
        for (int i = 1; i <= 59; i++) {
            x.ask(0, Check.pair(i, 99));
        }
        x.tell(Check.pair(70, 10));
        x.tell(Check.pair(97, 98));
        x.tell(Check.pair(98, 97));
        int wide = 4 * 5 + 3 * 2 * 4;
        C.due("the dear pair ahead", x.first(0, 0), 213);
        C.due("its seconds", x.first(0, 1), 3 * wide + 3 * 5 + 3 * 5);
    }

    /** Few counts are free, pairs come twice and turned: orders differ, and the Model tries them all. */
    private static void ordersBesideTheModel() {
        java.util.Random random = new java.util.Random(7);
        java.util.Set<Integer> orders = new java.util.HashSet<>();
        for (int trial = 0; trial < 400; trial++) {
            HeadReckons x = Check.withHead("l5a2h3t9c3");
            Model m = new Model();
            m.minds.add(new Model.Mind(new int[] {5, 2, 3, 9, 3}));
            m.choice = trial % 3 == 0 ? "0" : trial % 3 == 1 ? "x<y?3;0" : "y<x?2;m=n?0;4";
            Check.choice(x, m.choice);
            for (int i = 1; i <= 57 + trial % 4; i++) {
                x.ask(0, Check.pair(i, 1));
                m.ask(0, Check.pair(i, 1));
            }
            int[] few = new int[4];
            for (int i = 0; i < 4; i++) {
                few[i] = Check.pair(60 + random.nextInt(40), 10 + random.nextInt(90));
            }
            for (int i = 0; i < 2 + random.nextInt(7); i++) {
                int pair = few[random.nextInt(4)];
                pair = random.nextBoolean() ? pair : Check.pair(pair % 10000, pair / 10000);
                x.tell(pair);
                m.tell(pair);
            }
            int digits = m.first(0, 0);
            orders.add(digits);
            C.due("order of trial " + trial, x.first(0, 0), digits);
            C.due("its seconds", x.first(0, 1), m.first(0, 1));
        }
        C.that("many orders came: " + orders.size(), orders.size() > 20);
    }

    public static void main(String[] args) {
        list();
        parts();
        asked();
        sixtyPairs();
        taught();
        orders();
        dearerFirst();
        lastCount();
        ordersBesideTheModel();
        C.end();
    }
}
