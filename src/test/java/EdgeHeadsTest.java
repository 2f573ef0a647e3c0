/** Edges of promises 1 to 5: the tape, heads, their numbers. Each method holds one sentence of the document. */
final class EdgeHeadsTest {
    private static final Check C = new Check("EdgeHeadsTest");
    private static final String LETTERS = "lahtc";
    private static final String HEAD = "l5a2h3t9c6";
    private static final int MIN = Integer.MIN_VALUE, MAX = Integer.MAX_VALUE;

    private static void constants() {
        C.sentence("BAD = -1, NOT = -2, FULL = -3, STATE = -5, VOID = -2000000000");
        C.due("BAD", HeadReckons.BAD, -1);
        C.due("NOT", HeadReckons.NOT, -2);
        C.due("FULL", HeadReckons.FULL, -3);
        C.due("STATE", HeadReckons.STATE, -5);
        C.due("VOID", HeadReckons.VOID, -2000000000);
    }

    private static void call512() {
        C.sentence("An object is used for at most 512 calls after it has been made");
        HeadReckons x = Check.withHead("l0a2h3t9c6");
        int calls = 4;
        for (int v = 1; calls < 511; v = v % 99 + 1) {
            x.turn(0, 0, v);
            calls++;
        }
        C.due("call 512, the latest of 507 turns undone", x.undo(), 39);
        HeadReckons y = Check.withHead(HEAD);
        for (calls = 4; calls < 511; calls++) {
            y.ask(0, 990099);
        }
        C.due("call 512, a pair asked", y.ask(0, 990099), 508);
    }

    private static void nothingAtFirst() {
        C.sentence("No heads, nothing seen.");
        HeadReckons x = new HeadReckons();
        for (int what = 0; what <= 6; what++) {
            C.due("count(" + what + ")", x.count(what), 0);
        }
        C.due("of(0, 0)", x.of(0, 0), -1);
        C.due("seen(0, 0)", x.seen(0, 0), -2000000000);
        C.due("head() of an empty tape", x.head(), -100);
        C.due("choice() of an empty tape", x.choice(), -100);
    }

    private static void oneToFourBytes() {
        C.sentence("n (1 .. 4) bytes come to THE TAPE");
        for (int n : new int[] {MIN, -4, -1, 0, 5, 6, 8, 256, MAX}) {
            HeadReckons x = new HeadReckons();
            C.due("feed(" + n + ", ..)", x.feed(n, 0x32323232), -1);
            C.due("no byte came", x.count(2), 0);
        }
        for (int n = 1; n <= 4; n++) {
            HeadReckons x = new HeadReckons();
            C.due("feed(" + n + ", ..)", x.feed(n, 0x32323232), n);
            C.due("they came", x.count(2), n);
            C.due("and once more", x.feed(n, 0x32323232), 2 * n);
        }
    }

    private static void lowestFirst() {
        C.sentence("the lowest of v first");
        HeadReckons x = Check.withHead(HEAD);
        C.due("1<2?", x.feed(4, '1' | '<' << 8 | '2' << 16 | '?' << 24), 4);
        C.due("3; of a v with a 9 and a 8 above", x.feed(2, '3' | ';' << 8 | '9' << 16 | '8' << 24), 6);
        C.due("2 of a v below 0", x.feed(1, 0xFFFFFF32), 7);
        C.due("as a text", x.choice(), 1);
        C.due("1 is less than 2", x.chosen(0, 70009), 3);
        x.feed(4, '2' | '<' << 8 | '1' << 16 | '?' << 24);
        x.feed(3, '3' | ';' << 8 | '2' << 16);
        C.due("as a text", x.choice(), 1);
        C.due("2 is not less than 1", x.chosen(0, 70009), 2);
        HeadReckons y = new HeadReckons();
        y.feed(1, -1);
        C.due("a byte of 255 is one byte", y.count(2), 1);
        C.due("and no text", y.choice(), -100);
    }

    private static void tapeOf120() {
        C.sentence("THE TAPE (at most 120 bytes); BAD, FULL (120)");
        for (int had = 115; had <= 120; had++) {
            for (int n = 1; n <= 4; n++) {
                HeadReckons x = new HeadReckons();
                for (int i = 1; i <= had; i++) {
                    x.feed(1, '2');
                }
                boolean goes = had + n <= 120;
                C.due("feed(" + n + ", ..) at " + had, x.feed(n, 0x32323232), goes ? had + n : -3);
                C.due("count(2)", x.count(2), goes ? had + n : had);
                C.due("BAD is named ahead of FULL", x.feed(5, 0), -1);
            }
        }
    }

    /** A text of 120 bytes, and one of 119: were a byte of what is refused to come, they would be none. */
    private static void fullTapeStays() {
        C.sentence("FULL (120): what is answered so changes nothing");
        HeadReckons x = Check.withHead(HEAD);
        C.due("119 bytes", Check.feed(x, "2" + "-0".repeat(59)), 119);
        C.due("two more", x.feed(2, '+' | '1' << 8), -3);
        C.due("four more", x.feed(4, '+' | '1' << 8), -3);
        C.due("the text is whole", x.choice(), 1);
        C.due("and worked out", x.chosen(0, 70009), 2);
        C.due("120 bytes", Check.feed(x, "0003" + "-0".repeat(58)), 120);
        C.due("one more", x.feed(1, '+'), -3);
        C.due("no byte at all", x.feed(0, '+'), -1);
        C.due("the text is whole", x.choice(), 1);
        C.due("and worked out", x.chosen(0, 70009), 3);
        C.due("the tape is empty again", x.feed(1, '+'), 1);
    }

    private static void headsZeroToFive() {
        C.sentence("HEADS 0 .. 5, as they come by THE TAPE");
        HeadReckons x = new HeadReckons();
        for (int i = 0; i <= 5; i++) {
            C.due("head " + i + " is none yet", x.of(i, 0), -1);
            C.due("head()", Check.head(x, "l" + (10 + i) + "a2h3t9c6"), i);
            C.due("count(0)", x.count(0), i + 1);
        }
        for (int i = 0; i <= 5; i++) {
            C.due("of(" + i + ", 0)", x.of(i, 0), 10 + i);
        }
        C.due("of(6, 0)", x.of(6, 0), -1);
        C.due("of(-1, 0)", x.of(-1, 0), -1);
    }

    private static void fullOfHeads() {
        C.sentence("FULL (it stays).");
        HeadReckons x = new HeadReckons();
        for (int i = 0; i <= 5; i++) {
            Check.head(x, HEAD);
        }
        C.due("head() of an empty tape", x.head(), -3);
        Check.feed(x, "1<2?3;2");
        C.due("head() of what is no HEAD", x.head(), -3);
        C.due("the tape stays", x.count(2), 7);
        C.due("byte by byte", x.choice(), 1);
        C.due("byte by byte", x.chosen(0, 70009), 3);
        Check.feed(x, HEAD);
        C.due("head() of a HEAD", x.head(), -3);
        C.due("the tape stays", x.count(2), HEAD.length());
        C.due("six heads", x.count(0), 6);
        C.due("none behind them", x.of(6, 0), -1);
    }

    /** The text with these digits behind one letter, told as the place behind the letter at which its fault is; -1: none. */
    private static void digits(int letter, String digits, int fault, int value) {
        String[] all = {"5", "2", "3", "9", "6"};
        all[letter] = digits;
        StringBuilder text = new StringBuilder();
        int place = 0;
        for (int i = 0; i < 5; i++) {
            text.append(LETTERS.charAt(i));
            place = i == letter ? text.length() : place;
            text.append(all[i]);
        }
        HeadReckons x = new HeadReckons();
        C.due("head of " + text, Check.head(x, text.toString()), fault < 0 ? 0 : -100 - place - fault);
        C.due("its number", x.of(0, letter), fault < 0 ? value : -1);
        C.due("heads", x.count(0), fault < 0 ? 1 : 0);
        C.due("the tape is empty", x.count(2), 0);
    }

    private static void tenthsOf99() {
        C.sentence("tenths of a second that a LOOK (l), an ADD of one digit (a), a HOLD of one digit (h) take (0 .. 99 each)");
        for (int letter = 0; letter <= 2; letter++) {
            digits(letter, "0", -1, 0);
            digits(letter, "1", -1, 1);
            digits(letter, "98", -1, 98);
            digits(letter, "99", -1, 99);
            digits(letter, "100", 2, 0);
            digits(letter, "999", 2, 0);
            digits(letter, "-1", 0, 0);
        }
    }

    private static void tableOf99() {
        C.sentence("a TABLE (t: up to 9 .. 99)");
        digits(3, "0", 0, 0);
        digits(3, "8", 0, 0);
        digits(3, "08", 0, 0);
        digits(3, "9", -1, 9);
        digits(3, "09", -1, 9);
        digits(3, "10", -1, 10);
        digits(3, "99", -1, 99);
        digits(3, "100", 2, 0);
    }

    private static void capacityOf40() {
        C.sentence("CAPACITY (c: 1 .. 40 digits)");
        digits(4, "0", 0, 0);
        digits(4, "00", 0, 0);
        digits(4, "1", -1, 1);
        digits(4, "01", -1, 1);
        digits(4, "39", -1, 39);
        digits(4, "40", -1, 40);
        digits(4, "41", 0, 0);
        digits(4, "99", 0, 0);
        digits(4, "400", 2, 0);
    }

    private static void oneOrTwoDigits() {
        C.sentence("letters in that order, each with 1 or 2 digits");
        for (int letter = 0; letter <= 4; letter++) {
            digits(letter, "", 0, 0);
            digits(letter, "9", -1, 9);
            digits(letter, "09", -1, 9);
            digits(letter, "12", -1, 12);
            digits(letter, "009", letter < 3 ? 2 : 0, 0);
            digits(letter, "120", 2, 0);
        }
    }

    private static boolean isDigit(int sign) {
        return sign >= '0' && sign <= '9';
    }

    private static void eachLetterInItsPlace() {
        C.sentence("l N a N h N t N c N: letters in that order");
        for (int sign = 0; sign <= 255; sign++) {
            for (int letter = 0; letter <= 4; letter++) {
                boolean goesOnANumber = letter > 0 && isDigit(sign);
                if (!goesOnANumber) {
                    String text = HEAD.substring(0, 2 * letter) + (char) sign + HEAD.substring(2 * letter + 1);
                    int want = sign == LETTERS.charAt(letter) ? 0 : -100 - 2 * letter;
                    C.due("byte " + sign + " for letter " + letter, Check.head(new HeadReckons(), text), want);
                }
            }
        }
        String[] turned = {"a5l2h3t9c6", "l5h2a3t9c6", "l5a2t9h3c6", "l5a2h3c9t9", "l5a2h3t9", "l5l2h3t9c6"};
        int[] faults = {0, 2, 4, 6, 8, 2};
        for (int i = 0; i < turned.length; i++) {
            C.due("head of " + turned[i], Check.head(new HeadReckons(), turned[i]), -100 - faults[i]);
        }
    }

    private static void noBlanks() {
        C.sentence("No blanks.");
        for (int place = 0; place <= HEAD.length(); place++) {
            String text = HEAD.substring(0, place) + " " + HEAD.substring(place);
            C.due("head of '" + text + "'", Check.head(new HeadReckons(), text), -100 - place);
        }
    }

    private static void faultsPlace() {
        C.sentence("FAULT: the place (from 0) of the first byte with which no text goes on");
        for (int sign = 0; sign <= 255; sign++) {
            if (!isDigit(sign)) {
                C.due("byte " + sign + " for a digit", Check.head(new HeadReckons(), "l" + (char) sign + "a2h3t9c6"), -101);
                C.due("byte " + sign + " behind", Check.head(new HeadReckons(), HEAD + (char) sign), -110);
            }
            if (sign != 'a') {
                C.due("byte " + sign + " behind two digits", Check.head(new HeadReckons(), "l12" + (char) sign), -103);
            }
        }
        C.due("a second HEAD behind", Check.head(new HeadReckons(), HEAD + HEAD), -110);
        C.due("what comes behind a fault does not count", Check.head(new HeadReckons(), "l5b" + HEAD), -102);
    }

    private static void firstDigit() {
        C.sentence("(a number that may not be: its first digit)");
        C.due("TABLE 8 within the text", Check.head(new HeadReckons(), "l12a34h56t8c40"), -110);
        C.due("TABLE 08", Check.head(new HeadReckons(), "l12a34h56t08c40"), -110);
        C.due("CAPACITY 0 at the end", Check.head(new HeadReckons(), "l12a34h56t78c0"), -113);
        C.due("CAPACITY 41 at the end", Check.head(new HeadReckons(), "l12a34h56t78c41"), -113);
        C.due("CAPACITY 41, and more behind", Check.head(new HeadReckons(), "l12a34h56t78c41x"), -113);
    }

    private static void endsTooEarly() {
        C.sentence("the length, if it ends too early");
        String text = "l12a34h56t98c40";
        for (int length = 0; length <= text.length(); length++) {
            int want = length >= 14 ? 0 : -100 - length;
            C.due("head of " + text.substring(0, length), Check.head(new HeadReckons(), text.substring(0, length)), want);
        }
    }

    private static void tapeIsEmptyThen() {
        C.sentence("its number; -100 less its FAULT; THE TAPE is empty then");
        HeadReckons x = new HeadReckons();
        C.due("a fault", Check.head(x, "l5a2h3t9"), -108);
        C.due("the tape is empty", x.count(2), 0);
        C.due("no head came", x.count(0), 0);
        C.due("nothing of it is left", Check.head(x, "c6"), -100);
        C.due("a HEAD", Check.head(x, HEAD), 0);
        C.due("the tape is empty", x.count(2), 0);
        C.due("nothing of it is left", x.head(), -100);
        C.due("the head is as it was", x.of(0, 4), 6);
    }

    private static void ofWhat() {
        C.sentence("Of a HEAD: 0 l, 1 a, 2 h, 3 TABLE, 4 CAPACITY, 5 how many pairs are LEARNT. BAD.");
        HeadReckons x = Check.withHead("l1a2h3t14c5");
        Check.head(x, "l6a7h8t19c10");
        int[][] numbers = {{1, 2, 3, 14, 5, 0}, {6, 7, 8, 19, 10, 0}};
        for (int head = 0; head <= 1; head++) {
            for (int what = 0; what <= 5; what++) {
                C.due("of(" + head + ", " + what + ")", x.of(head, what), numbers[head][what]);
            }
        }
        for (int wrong : new int[] {MIN, -1, 6, 7, MAX}) {
            C.due("of(0, " + wrong + ")", x.of(0, wrong), -1);
            C.due("of(" + wrong + ", 0)", x.of(wrong, 0), -1);
        }
        C.due("of(2, 0)", x.of(2, 0), -1);
    }

    private static void turned(int what, int least, int most) {
        HeadReckons x = Check.withHead("l5a5h5t12c6");
        Check.head(x, "l5a5h5t12c6");
        int was = x.of(1, what);
        for (int v : new int[] {MIN, least - 2, least - 1, most + 1, most + 2, MAX}) {
            C.due("turn(1, " + what + ", " + v + ")", x.turn(1, what, v), -1);
            C.due("it stays", x.of(1, what), was);
        }
        C.due("no change is kept", x.count(4), 0);
        for (int v : new int[] {least, least + 1, most - 1, most}) {
            C.due("turn(1, " + what + ", " + v + ")", x.turn(1, what, v), was);
            C.due("it is " + v, x.of(1, what), v);
            was = v;
        }
        C.due("the other head stays", x.of(0, what), what == 3 ? 12 : what == 4 ? 6 : 5);
    }

    private static void turnWithinBounds() {
        C.sentence("l, a, h, TABLE, CAPACITY (what 0 .. 4) of a HEAD becomes v: what it was. BAD.");
        turned(0, 0, 99);
        turned(1, 0, 99);
        turned(2, 0, 99);
        turned(3, 9, 99);
        turned(4, 1, 40);
        HeadReckons x = Check.withHead(HEAD);
        for (int wrong : new int[] {MIN, -1, 5, 6, MAX}) {
            C.due("turn(0, " + wrong + ", 9)", x.turn(0, wrong, 9), -1);
            C.due("turn(" + wrong + ", 0, 9)", x.turn(wrong, 0, 9), -1);
        }
        C.due("turn(1, 0, 9)", x.turn(1, 0, 9), -1);
        C.due("no change is kept", x.count(4), 0);
    }

    public static void main(String[] args) {
        constants();
        call512();
        nothingAtFirst();
        oneToFourBytes();
        lowestFirst();
        tapeOf120();
        fullTapeStays();
        headsZeroToFive();
        fullOfHeads();
        tenthsOf99();
        tableOf99();
        capacityOf40();
        oneOrTwoDigits();
        eachLetterInItsPlace();
        noBlanks();
        faultsPlace();
        firstDigit();
        endsTooEarly();
        tapeIsEmptyThen();
        ofWhat();
        turnWithinBounds();
        C.end();
    }
}
