/** What the tests share: texts on the tape, answers that are due, and the end of a test. */
final class Check {
    private final String name;
    private int checked;
    private int wrong;
    private String sentence = "";
    private int sentences;
    private int checkedAhead;

    Check(String name) {
        this.name = name;
    }

    /** What is due from here on holds these words of the document; a test that holds nothing is wrong itself. */
    void sentence(String words) {
        closeSentence();
        sentence = " [" + words + "]";
        sentences++;
        checkedAhead = checked;
    }

    private void closeSentence() {
        if (sentences > 0 && checked == checkedAhead) {
            wrong++;
            System.out.println(name + ": nothing is due for" + sentence);
        }
    }

    void due(String call, long got, long want) {
        checked++;
        if (got != want) {
            wrong++;
            if (wrong <= 40) {
                System.out.println(name + sentence + ": " + call + " answered " + got + ", due is " + want);
            }
        }
    }

    void that(String what, boolean holds) {
        due(what, holds ? 1 : 0, 1);
    }

    /** Feeds a text by fours; the bytes of a call above its n are set, too, as they must not count. */
    static int feed(HeadReckons x, String text) {
        int length = 0;
        for (int i = 0; i < text.length(); i += 4) {
            int n = Math.min(4, text.length() - i);
            int v = n == 4 ? 0 : 0x55 << 8 * n;
            for (int k = 0; k < n; k++) {
                v |= text.charAt(i + k) << 8 * k;
            }
            length = x.feed(n, v);
        }
        return length;
    }

    static int head(HeadReckons x, String text) {
        feed(x, text);
        return x.head();
    }

    static int choice(HeadReckons x, String text) {
        feed(x, text);
        return x.choice();
    }

    static HeadReckons withHead(String text) {
        HeadReckons x = new HeadReckons();
        head(x, text);
        return x;
    }

    static int pair(int a, int b) {
        return 10000 * a + b;
    }

    static long raised(long r, int power) {
        long n = 1;
        for (int i = 0; i < power; i++) {
            n *= r;
        }
        return n;
    }

    void end() {
        closeSentence();
        System.out.println(name + ": " + (checked - wrong) + " of " + checked + " as due"
                + (sentences > 0 ? ", " + sentences + " sentences" : ""));
        if (wrong != 0 || checked == 0) {
            System.exit(1);
        }
    }
}
