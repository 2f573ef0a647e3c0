/** Promises 6 and 9: the choice's text, its faults, the way that it chooses. */
final class ChoiceTest {
    private static final Check C = new Check("ChoiceTest");

    /** The value of a text 0 .. 6, told by ways that are none of them NOT for 7 times 9 (KNOWN, SQUARED, SPLIT go). */
    private static void value(String text, int want) {
        HeadReckons x = Check.withHead("l1a1h1t12c4");
        C.due("choice " + text, Check.choice(x, text), 1);
        C.due("chosen by " + text, x.chosen(0, Check.pair(7, 9)), want);
    }

    private static void number(String text, int want) {
        value("(" + text + ")=(" + want + ")?2;3", 2);
    }

    private static void values() {
        for (int way = 0; way <= 6; way++) {
            value(String.valueOf(way), way);
        }
        value("7", 1);
        value("-1", 1);
        value("9999", 1);
        value("0004", 4);
        value("0?4", 0);
        value("0?4;5", 5);
        value("1?4;5", 4);
        value("-1?4;5", 4);
        value("0?2;0?3;0?4", 0);
        value("2;3", 2);
        value("0?2;1?3;4", 3);
        value("1?6", 6);
    }

    private static void signs() {
        number("2+3*2", 8);
        number("9-2-3", 4);
        number("9-2+3", 10);
        number("7/2", 3);
        number("-7/2", -3);
        number("-7%3", -1);
        number("7%-3", 1);
        number("7/0", 0);
        number("7%0", 0);
        number("8/2*2", 8);
        number("7*5%3", 2);
        number("8%3*2", 4);
        number("!0", 1);
        number("!5", 0);
        number("!!5", 1);
        number("--5", 5);
        number("3--2", 5);
        number("3+-2", 1);
        number("-2*-3", 6);
        number("!0+1", 2);
        number("2<3", 1);
        number("3<3", 0);
        number("3>2", 1);
        number("3>3", 0);
        number("3=3", 1);
        number("3=2", 0);
        number("1+1=2", 1);
        number("2&1", 1);
        number("4&2", 1);
        number("2&0", 0);
        number("0|0", 0);
        number("4|0", 1);
        number("1|0&0", 1);
        number("0&0|1", 1);
        number("0&(0|1)", 0);
        number("1&2>1", 1);
        number("(2<3)<(3<2)", 0);
        number("2*(3+4)", 14);
        number("(((((5)))))", 5);
        number("5|0|0", 1);
        number("5&5&5", 1);
        number("0/0+(5-5)", 0);
        int wrapped = 9999 * 9999 * 9999;
        number("9999*9999*9999/9999/9999", wrapped / 9999 / 9999);
        number("9999*9999*9999>0", wrapped > 0 ? 1 : 0);
    }

    private static void name(String name, int a, int b, int want) {
        HeadReckons x = Check.withHead("l1a1h1t57c31");
        C.due("choice", Check.choice(x, name + "=" + want + "?2;3"), 1);
        C.due(name + " of " + a + " and " + b, x.chosen(0, Check.pair(a, b)), 2);
    }

    private static void names() {
        name("m", 9, 1234, 1);
        name("m", 1000, 7, 4);
        name("n", 1000, 7, 1);
        name("n", 7, 999, 3);
        name("x", 1238, 9, 8);
        name("y", 1238, 9, 9);
        name("x", 10, 9, 0);
        name("d", 47, 43, 4);
        name("d", 43, 47, 4);
        name("d", 9999, 1, 9998);
        name("d", 5, 5, 0);
        name("z", 1000, 101, 4);
        name("z", 5, 5, 0);
        name("z", 10, 9000, 4);
        name("t", 5, 5, 57);
        name("c", 5, 5, 31);
    }

    private static void notWays() {
        HeadReckons x = Check.withHead("l1a1h1t9c4");
        Check.choice(x, "0");
        C.due("known", x.chosen(0, Check.pair(9, 9)), 0);
        C.due("not known: LEFT", x.chosen(0, Check.pair(10, 9)), 1);
        Check.choice(x, "4");
        C.due("both odd", x.chosen(0, Check.pair(7, 9)), 4);
        C.due("unlike: LEFT", x.chosen(0, Check.pair(7, 8)), 1);
        Check.choice(x, "5");
        C.due("split", x.chosen(0, Check.pair(7, 8)), 5);
        C.due("a prime: LEFT", x.chosen(0, Check.pair(8, 7)), 1);
        C.due("chosen(1, ..)", x.chosen(1, 70008), -1);
        C.due("chosen(-1, ..)", x.chosen(-1, 70008), -1);
        C.due("chosen(0, 70000)", x.chosen(0, 70000), -1);
        C.due("chosen(0, 8)", x.chosen(0, 8), -1);
        C.due("chosen(0, 100000008)", x.chosen(0, 100000008), -1);
        C.due("chosen(0, -70008)", x.chosen(0, -70008), -1);
        C.due("a fault", Check.choice(x, "2;"), -102);
        C.due("the choice stays", x.chosen(0, Check.pair(7, 8)), 5);
    }

    private static void faults() {
        String[] texts = {"", "q", "m+", "m n", " m", "12345", "m1", "1m", "m<n<x", "m<n=x", "m=n&x>y", "(m", "(m))",
            "m)", "()", "m?", "m?n?x", "m;", ";m", "m;;n", "?m", "m?;n", "(m?n)", "(m;n)", "((((((m))))))",
            "(((((((m", "!-!-!-m", "!-!-!-!m", "!-!-!-(m)", "m!", "m!n", "m&&n", "m|", "M", "m*/n", "m--n", "m---n",
            "m-------n", "m--------n", "m+(-(-(-5)))", "m+(-(-(-(5))))", "1234;5678", "1234?12345", "99999",
            "m\u00e9", "\u0000", "m,n", "m+n ", "(1234", "(12345)",
            "m&", "m<", "m=", "m>", "m+", "m-", "m*", "m/", "m%", "(", "!", "-", "(m+", "m?n&", "m?n<",
            "1?((((((m))))))", "((((((m))))))?1", "1?(((((((m", "m?((((((m)))))!", "m<(n<x)", "m?n;x?y?"};
        int[] faults = {0, 0, 2, 1, 0, 4, 1, 1, 3, 3, -1, 2, 3,
            1, 1, 2, 3, 2, 0, 2, 0, 2, 2, 2, -1,
            6, -1, 6, 6, 1, 1, 2, 2, 0, 2, -1, -1,
            -1, 8, -1, 8, -1, 9, 4,
            1, 0, 1, 3, 5, 5,
            2, 2, 2, 2, 2, 2, 2, 2, 2, 1, 1, 1, 3, 4, 4,
            -1, -1, 8, 14, -1, 7};
        for (int i = 0; i < texts.length; i++) {
            HeadReckons x = new HeadReckons();
            int want = faults[i] < 0 ? 1 : -100 - faults[i];
            C.due("choice of " + texts[i], Check.choice(x, texts[i]), want);
            C.due("the tape is empty", x.count(2), 0);
        }
    }

    private static void longTexts() {
        HeadReckons x = Check.withHead("l1a1h1t12c4");
        StringBuilder sum = new StringBuilder("1");
        while (sum.length() < 117) {
            sum.append("-0");
        }
        C.due("a text of 119", Check.choice(x, sum + "+1"), 1);
        C.due("it is worked out", x.chosen(0, 70009), 2);
        StringBuilder lines = new StringBuilder();
        while (lines.length() < 116) {
            lines.append("0?1;");
        }
        C.due("thirty lines", Check.choice(x, lines + "0?2"), 1);
        C.due("none counts", x.chosen(0, 70009), 0);
        C.due("the last counts", Check.choice(x, lines + "3"), 1);
        C.due("the last one", x.chosen(0, 70009), 3);
    }

    public static void main(String[] args) {
        values();
        signs();
        names();
        notWays();
        faults();
        longTexts();
        C.end();
    }
}
