/** Edges of promises 6 and 9: the choice's text, and what is chosen by it. */
final class EdgeChoiceTest {
    private static final Check C = new Check("EdgeChoiceTest");
    private static final String HEAD = "l1a1h1t12c4";
    private static final String OPERANDS = "0123456789mnxydztc", OPENERS = "(!-", JOINERS = "|&<=>+-*/%";
    /** 2147483647 as a text: the greatest int. */
    private static final String MOST = "(9999*9999*21+9999*4790+8416)";

    /** Of 7 and 9 no WAY is NOT: what the text counts is what is chosen. */
    private static void counts(String text, int want) {
        HeadReckons x = Check.withHead(HEAD);
        C.due("choice of " + text, Check.choice(x, text), 1);
        C.due("chosen by " + text, x.chosen(0, 70009), want);
    }

    private static void holds(String comparison) {
        counts("(" + comparison + ")=1?2;3", 2);
    }

    private static void value(String text, int want) {
        counts("(" + text + ")=" + want + "?2;3", 2);
    }

    private static void fault(String text, int place) {
        HeadReckons x = new HeadReckons();
        C.due("choice of '" + text + "'", Check.choice(x, text), place < 0 ? 1 : -100 - place);
        C.due("the tape is empty", x.count(2), 0);
    }

    /** Every byte behind a beginning: those that end a text, those that go on with one, and all others. */
    private static void follow(String begun, String ending, String going) {
        for (int sign = 0; sign <= 255; sign++) {
            int place = ending.indexOf(sign) >= 0 ? -1 : going.indexOf(sign) >= 0 ? begun.length() + 1 : begun.length();
            fault(begun + (char) sign, place);
        }
    }

    private static void oneLineAndMore() {
        C.sentence("LINES, one or more, parted by ;");
        fault("", 0);
        fault("2", -1);
        fault(";", 0);
        fault("2;", 2);
        fault("2;;3", 2);
        fault("2;3", -1);
        fault("2;3;", 4);
        counts("2;3", 2);
        counts("0?1;".repeat(29) + "3", 3);
    }

    private static void eOrEAndE() {
        C.sentence("LINE: E, or E ? E (what counts if the first is not 0)");
        fault("?2", 0);
        fault("1?", 2);
        fault("1?2?3", 3);
        fault("1?2;?", 4);
        fault("1?2;1?3", -1);
        counts("0?2;3", 3);
        counts("1?2;3", 2);
        counts("-1?2;3", 2);
        counts("9999?2;3", 2);
    }

    private static void bytesThatGoOn() {
        C.sentence("E = A { | A }. A = B { & B }. B = S, or S < S, S = S, S > S. S = P { + P, - P }. P = O { * O, / O, % O }.");
        follow("", OPERANDS, OPENERS);
        follow("m", "", JOINERS + "?;");
        follow("12", "0123456789", JOINERS + "?;");
        follow("m<n", "", "|&+-*/%?;");
        follow("m=n", "", "|&+-*/%?;");
        follow("m>n", "", "|&+-*/%?;");
        follow("m<n&x", "", JOINERS + "?;");
        follow("m<n|x", "", JOINERS + "?;");
        follow("m?n", "", JOINERS + ";");
        follow("m?n;x", "", JOINERS + "?;");
        follow("(m", ")", JOINERS);
        follow("(m<n", ")", "|&+-*/%");
        follow("(m)", "", JOINERS + "?;");
        follow("!m", "", JOINERS + "?;");
        for (String joiner : JOINERS.split("")) {
            follow("m" + joiner, OPERANDS, OPENERS);
        }
        follow("m?", OPERANDS, OPENERS);
        follow("m;", OPERANDS, OPENERS);
        follow("(", "", OPERANDS + OPENERS);
        follow("!", OPERANDS, OPENERS);
        follow("-", OPERANDS, OPENERS);
    }

    private static void oneToFourDigits() {
        C.sentence("a number (1 to 4 digits)");
        value("7", 7);
        value("77", 77);
        value("777", 777);
        value("7777", 7777);
        value("0000", 0);
        value("0007", 7);
        value("9999", 9999);
        follow("123", "0123456789", JOINERS + "?;");
        follow("1234", "", JOINERS + "?;");
        follow("0000", "", JOINERS + "?;");
        fault("12345", 4);
        fault("m+12345", 6);
        fault("1234;12345", 9);
    }

    private static void noBlanks() {
        C.sentence("No blanks.");
        String text = "m+1<n&!x?2;-(y*3)";
        fault(text, -1);
        for (int place = 0; place <= text.length(); place++) {
            fault(text.substring(0, place) + " " + text.substring(place), place);
        }
    }

    /** The row of signs in front of an operand, and its brackets closed behind it. */
    private static String opened(String signs, String operand) {
        return signs + operand + ")".repeat(signs.replaceAll("[^(]", "").length());
    }

    private static void sixOpen() {
        C.sentence("At most 6 of ( ! - ahead of an O are open at once.");
        for (int row = 0; row < 729; row++) {
            String signs = "";
            for (int rest = row + 729; rest >= 3; rest /= 3) {
                signs += OPENERS.charAt(rest % 3);
            }
            fault(opened(signs, "m"), -1);
            fault(opened(signs, "1234"), -1);
            fault("n-" + opened(signs, "m"), -1);
            for (String seventh : OPENERS.split("")) {
                fault(opened(signs + seventh, "m"), 6);
                fault("n-" + opened(signs + seventh, "m"), 8);
            }
        }
    }

    private static void openAtOnceAlone() {
        C.sentence("At most 6 of ( ! - .. are open at once: what is closed counts no more");
        for (String six : new String[] {"((((((", "!!!!!!", "------", "(!-(!-", "-!(-!("}) {
            String open = opened(six, "m");
            for (String joiner : JOINERS.split("")) {
                fault(open + joiner + open, -1);
                fault(open + joiner + opened(six + "(", "m"), open.length() + 7);
            }
            fault(open + "?" + open + ";" + open + "?" + open, -1);
            fault(open + "?" + opened(six + "!", "m"), open.length() + 7);
            fault(open + ";" + opened(six + "-", "m"), open.length() + 7);
        }
        fault("(((((!m+-n*(x))))))", -1);
        fault("(((((!m+!!n)))))", 9);
        fault("((((((m)+(n))))))", -1);
        fault("((((((m)+((n)))))))", 10);
        fault("(((((-m-n)))))", -1);
        fault("(((((-m--n)))))", -1);
        fault("(((((-m---n)))))", 9);
    }

    private static void name(String name, int a, int b, int want) {
        HeadReckons x = Check.withHead("l1a1h1t57c31");
        C.due("choice", Check.choice(x, name + "=" + want + "?2;3"), 1);
        C.due(name + " of " + a + " and " + b, x.chosen(0, Check.pair(a, b)), 2);
    }

    private static void sizes() {
        C.sentence("m, n SIZES of a, b");
        int[][] all = {{1, 1}, {9, 1}, {10, 2}, {99, 2}, {100, 3}, {999, 3}, {1000, 4}, {9999, 4}};
        for (int[] one : all) {
            for (int[] other : all) {
                name("m", one[0], other[0], one[1]);
                name("n", one[0], other[0], other[1]);
            }
        }
    }

    private static void lastFigures() {
        C.sentence("x, y their last figures");
        for (int last = 0; last <= 9; last++) {
            name("x", 9990 + last, 1, last);
            name("y", 1, 9990 + last, last);
        }
        name("x", 10, 9, 0);
        name("y", 9, 10, 0);
    }

    private static void difference() {
        C.sentence("d the size of their difference (9999 at most)");
        name("d", 1, 1, 0);
        name("d", 9999, 9999, 0);
        name("d", 9999, 1, 9998);
        name("d", 1, 9999, 9998);
        name("d", 1, 2, 1);
        name("d", 100, 99, 1);
    }

    private static void noughts() {
        C.sentence("z noughts among figures of both");
        name("z", 1, 1, 0);
        name("z", 9999, 1111, 0);
        name("z", 10, 1, 1);
        name("z", 1, 10, 1);
        name("z", 101, 1001, 3);
        name("z", 1000, 1000, 6);
    }

    private static void tableAndCapacity() {
        C.sentence("t TABLE; c CAPACITY");
        for (int[] tc : new int[][] {{9, 1}, {99, 40}, {10, 39}}) {
            HeadReckons x = Check.withHead("l1a1h1t" + tc[0] + "c" + tc[1]);
            C.due("choice", Check.choice(x, "t=" + tc[0] + "&c=" + tc[1] + "?2;3"), 1);
            C.due("t and c", x.chosen(0, 70009), 2);
            x.turn(0, 3, 50);
            C.due("another TABLE", x.chosen(0, 70009), 3);
            x.undo();
            x.turn(0, 4, 20);
            C.due("another CAPACITY", x.chosen(0, 70009), 3);
            Check.head(x, "l1a1h1t" + tc[0] + "c" + tc[1]);
            C.due("of the HEAD that is asked", x.chosen(1, 70009), 2);
        }
    }

    private static void wraps() {
        C.sentence("Ints that wrap");
        holds(MOST + ">0");
        holds(MOST + "+1<0");
        holds(MOST + "+1=-" + MOST + "-1");
        holds("-" + MOST + "-2=" + MOST);
        holds("-(-" + MOST + "-1)<0");
        holds(MOST + "*2=-2");
        holds(MOST + "*" + MOST + "=1");
        holds("(-" + MOST + "-1)/-1<0");
        holds("(-" + MOST + "-1)%-1=0");
        holds("(-" + MOST + "-1)<" + MOST);
        counts("8192*8*(8192*8)+2", 2);
        counts("-" + MOST + "-1?2;3", 2);
        counts("8192*8*(8192*8)?2;3", 3);
    }

    private static void towardNought() {
        C.sentence("/ and % toward 0, by 0 they give 0");
        holds("7/2=3&-7/2=-3&7/-2=-3&-7/-2=3");
        holds("7%2=1&-7%2=-1&7%-2=1&-7%-2=-1");
        holds("1/2=0&-1/2=0&6/6=1&5/6=0");
        value("7/0", 0);
        value("7%0", 0);
        value("0/0", 0);
        value("0%0", 0);
        value("-7/0", 0);
        value("-7%0", 0);
        value("5+7/0", 5);
        value("7/(3-3)*2", 0);
    }

    private static void oneOrNought() {
        C.sentence("| & < = > ! give 1, 0");
        value("0|0", 0);
        value("0|4", 1);
        value("4|0", 1);
        value("-4|2", 1);
        value("0&0", 0);
        value("0&4", 0);
        value("4&0", 0);
        value("4&2", 1);
        value("-4&2", 1);
        value("2<3", 1);
        value("3<3", 0);
        value("4<3", 0);
        value("2=3", 0);
        value("3=3", 1);
        value("4=3", 0);
        value("2>3", 0);
        value("3>3", 0);
        value("4>3", 1);
        value("!0", 1);
        value("!1", 0);
        value("!7", 0);
        value("!-1", 0);
    }

    private static void joinedInTurn() {
        C.sentence("E = A { | A }, joined one behind the other");
        value("9-2-3", 4);
        value("9-2+3", 10);
        value("8/2/2", 2);
        value("8/2*2", 8);
        value("9%5%3", 1);
        value("2+3*2", 8);
        value("1|0&0", 1);
        value("0&1|1", 1);
        value("1&2>1", 1);
        value("1+1=2", 1);
        value("2*(3+4)", 14);
        value("0|0|0|5", 1);
        value("5&5&5&0", 0);
        value("-2+3", 1);
        value("!0+1", 2);
        value("!0*3", 3);
    }

    private static void firstThatCounts() {
        C.sentence("The first LINE without a first E, or whose first E is not 0, counts; none: 0.");
        counts("2;3;4", 2);
        counts("0?2;3;4", 3);
        counts("0?2;1?3;4", 3);
        counts("0?2;0?3;4", 4);
        counts("0?2", 0);
        counts("0?2;0?3;0?4", 0);
        counts("0?1;".repeat(29) + "0?2", 0);
        counts("0?1;".repeat(29) + "5?2", 2);
        HeadReckons x = Check.withHead(HEAD);
        Check.choice(x, "0?2");
        C.due("KNOWN is NOT: LEFT", x.chosen(0, Check.pair(13, 2)), 1);
    }

    private static void tooEarly() {
        C.sentence("FAULT likewise, the length, if it ends too early.");
        String text = "m+1<n|x&!y?-2;(3%(z))*d";
        String ends = "m1nxy2d)";
        for (int length = 0; length <= text.length(); length++) {
            boolean bracketsAreClosed = length <= 14 || length >= 21;
            boolean isWhole = length > 0 && bracketsAreClosed && ends.indexOf(text.charAt(length - 1)) >= 0;
            fault(text.substring(0, length), isWhole ? -1 : length);
        }
    }

    private static void textsEnd() {
        C.sentence("THE TAPE (at most 120 bytes) becomes THE CHOICE");
        counts("2" + "-0".repeat(59), 2);
        counts("0002" + "-0".repeat(58), 2);
        fault("2" + "-0".repeat(58) + "-00", -1);
        fault("2" + "-0".repeat(58) + "-0-", 120);
        fault("2" + "-0".repeat(58) + "-0)", 119);
    }

    private static void withoutText() {
        C.sentence("Without a TEXT: 1.");
        HeadReckons x = Check.withHead("l1a1h1t12c4");
        C.due("LEFT, though it is KNOWN", x.chosen(0, 70009), 1);
        C.due("a fault", Check.choice(x, "3;"), -102);
        C.due("is no TEXT", x.chosen(0, 70009), 1);
        C.due("an empty tape", x.choice(), -100);
        C.due("is no TEXT", x.chosen(0, 70009), 1);
        C.due("a TEXT", Check.choice(x, "3"), 1);
        C.due("is one", x.chosen(0, 70009), 3);
    }

    private static void choiceStays() {
        C.sentence("THE TAPE becomes THE CHOICE: 1; -100 less its FAULT; THE TAPE is empty then.");
        HeadReckons x = Check.withHead("l1a1h1t12c4");
        C.due("a TEXT", Check.choice(x, "0?3;2"), 1);
        C.due("the tape is empty", x.count(2), 0);
        for (String text : new String[] {"", "q", "3;", "3?4?5", "4;q", "(((((((", "12345"}) {
            C.that("a fault", Check.choice(x, text) <= -100);
            C.due("the tape is empty", x.count(2), 0);
            C.due("the choice stays", x.chosen(0, 70009), 2);
        }
        C.due("nothing of a fault is left", Check.choice(x, "5"), 1);
        C.due("another TEXT", x.chosen(0, 70009), 5);
    }

    private static void waysAlone() {
        C.sentence("CHOSEN by a HEAD: that number, if it is a WAY 0 .. 6 that is not NOT; else LEFT.");
        counts("-9999", 1);
        counts("-2", 1);
        counts("-1", 1);
        for (int way = 0; way <= 6; way++) {
            counts(String.valueOf(way), way);
        }
        counts("7", 1);
        counts("8", 1);
        counts("9999", 1);
        counts(MOST, 1);
        counts("-" + MOST + "-1", 1);
        HeadReckons x = Check.withHead("l1a1h1t12c4");
        Check.choice(x, "0");
        C.due("KNOWN at the table", x.chosen(0, Check.pair(12, 12)), 0);
        C.due("KNOWN is NOT", x.chosen(0, Check.pair(13, 12)), 1);
        C.due("KNOWN is NOT", x.chosen(0, Check.pair(12, 13)), 1);
        Check.choice(x, "4");
        C.due("SQUARED", x.chosen(0, Check.pair(1, 9999)), 4);
        C.due("SQUARED is NOT", x.chosen(0, Check.pair(1, 9998)), 1);
        Check.choice(x, "5");
        C.due("SPLIT", x.chosen(0, Check.pair(9999, 4)), 5);
        C.due("SPLIT is NOT", x.chosen(0, Check.pair(9999, 3)), 1);
    }

    private static void chosenBad() {
        C.sentence("CHOSEN by a HEAD: the WAY. BAD.");
        HeadReckons x = Check.withHead(HEAD);
        Check.choice(x, "3");
        C.due("the last head", x.chosen(0, 70009), 3);
        for (int head : new int[] {-1, 1, 5, 6, Integer.MIN_VALUE, Integer.MAX_VALUE}) {
            C.due("chosen(" + head + ", ..)", x.chosen(head, 70009), -1);
        }
    }

    public static void main(String[] args) {
        oneLineAndMore();
        eOrEAndE();
        bytesThatGoOn();
        oneToFourDigits();
        noBlanks();
        sixOpen();
        openAtOnceAlone();
        sizes();
        lastFigures();
        difference();
        noughts();
        tableAndCapacity();
        wraps();
        towardNought();
        oneOrNought();
        joinedInTurn();
        firstThatCounts();
        tooEarly();
        textsEnd();
        withoutText();
        choiceStays();
        waysAlone();
        chosenBad();
        C.end();
    }
}
