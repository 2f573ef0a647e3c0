/** Promises 26 to 28: whole roots, roots by firsts, firsts that are enough. */
final class RootTest {
    private static final Check C = new Check("RootTest");
    private static final long MOST = 999999999999999999L;
    private static final int[] POWERS = {2, 3, 5};

    private static void roots() {
        for (int power : POWERS) {
            int most = power == 2 ? 999999999 : power == 3 ? 999999 : 3981;
            for (int r = 1; r <= most; r += r < 4000 ? 1 : r / 7) {
                HeadReckons x = new HeadReckons();
                long n = Check.raised(r, power);
                C.due("root of " + n, x.root(n, power), r);
                C.due("root beside " + n, x.root(n + 1, power), 0);
            }
            HeadReckons x = new HeadReckons();
            C.due("the greatest root", x.root(Check.raised(most, power), power), most);
            C.due("root of 1", x.root(1, power), 1);
            C.due("root of 2", x.root(2, power), 0);
            C.due("root of the greatest", x.root(MOST, power), 0);
            C.due("root of 0", x.root(0, power), -1);
            C.due("root of -1", x.root(-1, power), -1);
            C.due("root of more", x.root(MOST + 1, power), -1);
            C.due("root of the least long", x.root(Long.MIN_VALUE, power), -1);
            C.due("root of the most long", x.root(Long.MAX_VALUE, power), -1);
        }
        HeadReckons x = new HeadReckons();
        int[] wrong = {-2, 0, 1, 4, 6, 7, 10, Integer.MAX_VALUE, Integer.MIN_VALUE};
        for (int power : wrong) {
            C.due("power " + power, x.root(64, power), -1);
            C.due("enough, power " + power, x.enough(64, power), -1);
            C.due("firsts, power " + power, x.firsts(64, 100 * power + 1, 0), -1);
        }
    }

    /** All roots tried, one by one. */
    private static int[] tried(long number, int power, int f) {
        String digits = String.valueOf(number);
        int many = 0;
        int least = 0;
        for (int r = 1; Check.raised(r, power) < 20000000; r++) {
            String s = String.valueOf(Check.raised(r, power));
            if (s.length() == digits.length() && s.startsWith(digits.substring(0, f))
                    && s.endsWith(digits.substring(digits.length() - 1))) {
                many++;
                least = least == 0 ? r : least;
            }
        }
        return new int[] {many, least};
    }

    private static void firsts() {
        int[] numbers = {1, 4, 7, 16, 19, 25, 90, 739, 990, 59059, 64, 81, 99, 100, 121, 243, 512, 999, 1000, 1024, 4096, 7776, 9801, 10000, 15129,
            59049, 99856, 100000, 123456, 161051, 998001, 1000000, 1002001, 1500625, 9765625, 9999999};
        for (int number : numbers) {
            HeadReckons x = new HeadReckons();
            for (int power : POWERS) {
                for (int f = 1; f <= String.valueOf(number).length(); f++) {
                    int[] want = tried(number, power, f);
                    C.due("how many, " + number + " " + power + " " + f, x.firsts(number, 100 * power + f, 0), want[0]);
                    C.due("the least, " + number + " " + power + " " + f, x.firsts(number, 100 * power + f, 1), want[1]);
                }
            }
        }
        HeadReckons x = new HeadReckons();
        long ten = 1;
        for (int size = 1; size <= 18; size++) {
            for (long number : new long[] {ten, 10 * ten - 1}) {
                C.that("f at the size of " + number, x.firsts(number, 200 + size, 0) >= 0);
                C.due("f above the size of " + number, x.firsts(number, 201 + size, 0), -1);
            }
            C.due("all roots that begin with 1 and end with 0", x.firsts(ten, 201, 1),
                    size == 1 ? 1 : size == 2 ? 0 : (int) Math.ceil(Math.sqrt(ten) / 10 - 1e-9) * 10);
            ten *= 10;
        }
        C.due("2 .. as 18 figures", x.firsts(200000000000000000L, 201, 0), (547722550 - 447213600) / 10 + 1);
        C.due("the least", x.firsts(200000000000000000L, 201, 1), 447213600);
        C.due("all 18", x.firsts(999999998000000001L, 218, 1), 999999999);
        C.due("all 18", x.firsts(999999998000000001L, 218, 0), 1);
    }

    private static void wrongFirsts() {
        HeadReckons x = new HeadReckons();
        C.due("f 0", x.firsts(121, 200, 0), -1);
        C.due("f above the size", x.firsts(121, 204, 0), -1);
        C.due("f at the size", x.firsts(121, 203, 0), 1);
        C.due("f 19", x.firsts(MOST, 219, 0), -1);
        C.due("f 18", x.firsts(MOST, 218, 0), 0);
        C.due("no root: the least is 0", x.firsts(MOST, 218, 1), 0);
        C.due("what 2", x.firsts(121, 201, 2), -1);
        C.due("what -1", x.firsts(121, 201, -1), -1);
        C.due("number 0", x.firsts(0, 201, 0), -1);
        C.due("number too great", x.firsts(MOST + 1, 201, 0), -1);
        C.due("number below 0", x.firsts(-121, 201, 0), -1);
        C.due("pf below 0", x.firsts(121, -201, 0), -1);
        C.due("pf 99", x.firsts(121, 99, 0), -1);
        C.due("pf 401", x.firsts(121, 401, 0), -1);
        C.due("pf most", x.firsts(121, Integer.MAX_VALUE, 0), -1);
        C.due("pf least", x.firsts(121, Integer.MIN_VALUE, 0), -1);
    }

    private static void enough() {
        for (int power : POWERS) {
            for (int r = 1; Check.raised(r, power) < 10000000; r++) {
                HeadReckons x = new HeadReckons();
                int number = (int) Check.raised(r, power);
                int f = 1;
                while (x.firsts(number, 100 * power + f, 0) != 1) {
                    f++;
                }
                C.due("enough of " + number, x.enough(number, power), f);
            }
        }
        HeadReckons x = new HeadReckons();
        C.due("4: 4 alone begins so", x.enough(4, 2), 1);
        C.due("121: 11 and 19 begin unlike at the second", x.enough(121, 2), 1);
        C.due("441: 21 alone; 29 is 841", x.enough(441, 2), 1);
        C.due("1681: 31 is 961, 39 1521, 41 1681", x.enough(1681, 2), 2);
        C.due("no whole power", x.enough(120, 2), -2);
        C.due("no cube", x.enough(121, 3), -2);
        C.due("0", x.enough(0, 2), -1);
        C.due("too great", x.enough(MOST + 1, 2), -1);
        C.due("the greatest is no power", x.enough(MOST, 5), -2);
        long square = 999999999L * 999999999L;
        int f = x.enough(square, 2);
        C.due("one alone by so many", x.firsts(square, 200 + f, 0), 1);
        C.that("more by one less", x.firsts(square, 200 + f - 1, 0) > 1);
    }

    public static void main(String[] args) {
        roots();
        firsts();
        wrongFirsts();
        enough();
        C.end();
    }
}
