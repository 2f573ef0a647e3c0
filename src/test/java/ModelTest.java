import java.util.Random;

/** All promises: runs of calls, drawn from fixed seeds, on the program and on the Model side by side. */
final class ModelTest {
    private static final Check CHECK = new Check("ModelTest");
    private static final String[] NAMES = {
        "feed", "head", "of", "turn", "choice", "way", "step", "chosen", "answer", "quickest", "table",
        "see", "asks", "seen", "fits", "best", "slip", "suits", "tell", "untell", "parts", "ask", "taught",
        "first", "root", "firsts", "enough", "undo", "redo", "body", "act", "trace", "keep", "row", "put",
        "element", "shift", "taken", "count"};
    /** How often each call is drawn. */
    private static final int[] WEIGHTS = {
        2, 1, 4, 8, 1, 8, 12, 6, 8, 4, 2,
        10, 4, 4, 3, 4, 10, 2, 5, 1, 5, 14, 4,
        2, 4, 5, 2, 6, 5, 4, 6, 8, 5, 5, 16,
        8, 6, 5, 3};
    private static final int MOST_DRAWN = 370;
    private static final String SIGNS = "mnxydztc0123456789()!-+*/%<=>&|?;lah ";

    private final Random random;
    private final HeadReckons x = new HeadReckons();
    private final Model m = new Model();
    private final String run;
    /** What an object answers behind its 512th call is free: a run makes fewer. */
    private int calls;

    private ModelTest(int seed) {
        random = new Random(seed);
        run = "run " + seed + ": ";
    }

    private int upTo(int n) {
        return random.nextInt(n + 1);
    }

    private boolean oneIn(int n) {
        return random.nextInt(n) == 0;
    }

    private static int pick(Random random, int... of) {
        return of[random.nextInt(of.length)];
    }

    /** Mostly a number from least to most, now and then one just outside, or a wild one. */
    private int from(int least, int most) {
        if (oneIn(25)) {
            return pick(random, least - 1, most + 1, Integer.MIN_VALUE, Integer.MAX_VALUE, -1, random.nextInt());
        }
        return least + random.nextInt(most - least + 1);
    }

    private int number() {
        switch (upTo(6)) {
            case 0: return 1 + upTo(11);
            case 1: return 1 + upTo(98);
            case 2: return 1 + upTo(998);
            case 3: return 10 * (1 + upTo(998));
            case 4: return pick(random, 1, 2, 9, 10, 99, 100, 101, 999, 1000, 1001, 4999, 5000, 9801, 9998, 9999);
            default: return 1 + upTo(9998);
        }
    }

    private int pair() {
        if (oneIn(40)) {
            return pick(random, 0, -1, 10000, 1, 100000001, 99990000, -70008, random.nextInt());
        }
        return Check.pair(number(), number());
    }

    private int lowPair() {
        return oneIn(12) ? pair() : Check.pair(1 + upTo(oneIn(2) ? 98 : 13), 1 + upTo(oneIn(2) ? 98 : 13));
    }

    private int headNumber() {
        return from(0, Math.max(0, m.count(0) - 1));
    }

    private int headWay() {
        return oneIn(30) ? pick(random, -1, 7, 9, 68, random.nextInt()) : 10 * headNumber() + upTo(6);
    }

    private String headText() {
        int table = oneIn(3) ? 9 : 9 + upTo(90);
        String text = "l" + upTo(99) + "a" + upTo(oneIn(2) ? 9 : 99) + "h" + upTo(20) + "t" + table + "c" + (1 + upTo(39));
        return oneIn(3) ? spoilt(text) : text;
    }

    /** Six heads: what head() answers when it is full. */
    private void fillHeads() {
        for (int i = 0; i < 6; i++) {
            feed("l" + upTo(9) + "a" + upTo(9) + "h" + upTo(9) + "t" + (9 + upTo(30)) + "c" + (1 + upTo(8)));
            due("head", new int[0], x.head(), m.head());
        }
    }

    private String spoilt(String text) {
        int place = upTo(text.length());
        String sign = String.valueOf(SIGNS.charAt(random.nextInt(SIGNS.length())));
        switch (upTo(3)) {
            case 0: return text.substring(0, place);
            case 1: return text.substring(0, place) + sign + text.substring(place);
            case 2: return text.substring(0, place) + sign + text.substring(Math.min(text.length(), place + 1));
            default: return text.substring(0, place) + text.substring(Math.min(text.length(), place + 1));
        }
    }

    private String expression(int depth) {
        if (depth <= 0 || oneIn(4)) {
            return oneIn(3) ? String.valueOf(upTo(oneIn(4) ? 9999 : 7)) : String.valueOf("mnxydztc".charAt(upTo(7)));
        }
        switch (upTo(8)) {
            case 0: return "(" + expression(depth - 1) + ")";
            case 1: return "!" + expression(depth - 2);
            case 2: return "-" + expression(depth - 2);
            case 3: return "(" + expression(depth - 1) + "<=>".charAt(upTo(2)) + expression(depth - 1) + ")";
            default: return expression(depth - 1) + "+-*/%<=>&|".charAt(upTo(9)) + expression(depth - 1);
        }
    }

    private String choiceText() {
        StringBuilder text = new StringBuilder();
        for (int lines = upTo(3); lines >= 0; lines--) {
            text.append(oneIn(3) ? "" : expression(upTo(3)) + "?").append(oneIn(3) ? expression(2) : upTo(6));
            text.append(lines > 0 ? ";" : "");
        }
        if (oneIn(6)) {
            return "(!-".repeat(1 + upTo(2)) + text;
        }
        return oneIn(3) ? spoilt(text.toString()) : text.toString();
    }

    private void feed(String text) {
        for (int i = 0; i < text.length() && i < 120; i += 4) {
            int n = Math.min(4, text.length() - i);
            int v = random.nextInt();
            for (int k = 0; k < n; k++) {
                v = v & ~(255 << 8 * k) | text.charAt(i + k) << 8 * k;
            }
            due("feed", new int[] {n, v}, x.feed(n, v), m.feed(n, v));
        }
    }

    private void due(String call, int[] arguments, long got, long want) {
        calls++;
        CHECK.due(run + call + java.util.Arrays.toString(arguments), got, want);
    }

    private interface Call {
        long answer();
    }

    private static long modelled(Call call) {
        try {
            return call.answer();
        } catch (Model.Refusal refusal) {
            return refusal.code;
        }
    }

    private long longNumber() {
        long r = 1 + upTo(oneIn(2) ? 3980 : 999);
        switch (upTo(7)) {
            case 0: return r * r;
            case 1: return r * r * r * (oneIn(2) ? 1 : r * r);
            case 2: return r * r * r + pick(random, -1, 1);
            case 3: return (long) Math.pow(10, upTo(17)) * (1 + upTo(8));
            case 4: return 1 + (random.nextLong() >>> 1) % 999999999999999999L;
            case 5: return 1 + upTo(5000);
            case 6: return (long) (1 + upTo(999999998)) * 1L * (1 + upTo(999));
            default: {
                long great = 1 + upTo(999999998);
                return oneIn(20) ? pick(random, 0, -1, Integer.MIN_VALUE) : great * great;
            }
        }
    }

    private int answerFor(int ab, int hw) {
        int product = ab / 10000 * (ab % 10000);
        switch (upTo(3)) {
            case 0: return product;
            case 1: return product + pick(random, 1, -1) * pick(random, 1, 10, 100, 1000, 2, 20, 300, 5000, 60000);
            case 2: {
                int seed = random.nextInt();
                int answer = (int) modelled(() -> m.answer(hw, ab, seed));
                return answer == -2000000000 ? product : answer;
            }
            default: return from(-999999999, 999999999);
        }
    }

    private void row(int shelf) {
        int i = upTo(8);
        for (int four = 0; four < 4; four++) {
            int ab = oneIn(6) ? 10001 : pair();
            int[] all = {ab / 10000, ab % 10000, from(0, 600), answerFor(Math.floorMod(ab, 99990000), 1)};
            for (int v : all) {
                int at = i++;
                long u = v;
                due("put", new int[] {shelf, at, v}, modelled(() -> x.put(shelf, at, u)), modelled(() -> m.put(shelf, at, u)));
            }
        }
    }

    private void draw() {
        int sum = 0;
        for (int weight : WEIGHTS) {
            sum += weight;
        }
        int at = random.nextInt(sum);
        int call = 0;
        while (at >= WEIGHTS[call]) {
            at -= WEIGHTS[call++];
        }
        makeCall(call);
    }

    private void makeCall(int call) {
        int[] g = new int[5];
        Call got;
        Call want;
        switch (call) {
            case 0: {
                g[0] = from(1, 4);
                g[1] = oneIn(2) ? random.nextInt() : 0x3B6D3F6E;
                got = () -> x.feed(g[0], g[1]);
                want = () -> m.feed(g[0], g[1]);
                break;
            }
            case 1: {
                feed(headText());
                got = x::head;
                want = m::head;
                break;
            }
            case 2: {
                g[0] = headNumber();
                g[1] = from(0, 5);
                got = () -> x.of(g[0], g[1]);
                want = () -> m.of(g[0], g[1]);
                break;
            }
            case 3: {
                g[0] = headNumber();
                g[1] = from(0, 4);
                g[2] = from(0, oneIn(2) ? 99 : 12);
                got = () -> x.turn(g[0], g[1], g[2]);
                want = () -> m.turn(g[0], g[1], g[2]);
                break;
            }
            case 4: {
                feed(choiceText());
                got = x::choice;
                want = m::choice;
                break;
            }
            case 5: {
                g[0] = headWay();
                g[1] = pair();
                g[2] = from(0, 2);
                got = () -> x.way(g[0], g[1], g[2]);
                want = () -> m.way(g[0], g[1], g[2]);
                break;
            }
            case 6: {
                g[0] = headWay();
                g[1] = pair();
                g[2] = from(0, oneIn(3) ? 60 : 12);
                g[3] = from(0, 3);
                got = () -> x.step(g[0], g[1], g[2], g[3]);
                want = () -> m.step(g[0], g[1], g[2], g[3]);
                break;
            }
            case 7: {
                g[0] = headNumber();
                g[1] = pair();
                got = () -> x.chosen(g[0], g[1]);
                want = () -> m.chosen(g[0], g[1]);
                break;
            }
            case 8: {
                g[0] = headWay();
                g[1] = pair();
                g[2] = random.nextInt();
                got = () -> x.answer(g[0], g[1], g[2]);
                want = () -> m.answer(g[0], g[1], g[2]);
                break;
            }
            case 9: {
                g[0] = headNumber();
                g[1] = pair();
                g[2] = from(1, oneIn(2) ? 99 : 12);
                got = () -> x.quickest(g[0], g[1], g[2]);
                want = () -> m.quickest(g[0], g[1], g[2]);
                break;
            }
            case 10: {
                g[0] = headNumber();
                g[1] = lowPair();
                g[2] = from(-2, 600);
                got = () -> x.table(g[0], g[1], g[2]);
                want = () -> m.table(g[0], g[1], g[2]);
                break;
            }
            default:
                makeLaterCall(call, g);
                return;
        }
        due(NAMES[call], g, got.answer(), modelled(want));
    }

    private void makeLaterCall(int call, int[] g) {
        Call got;
        Call want;
        switch (call) {
            case 11: {
                int hw = headWay();
                g[0] = pair();
                g[1] = oneIn(2) ? (int) Math.max(0, modelled(() -> m.way(hw, g[0], 0))) : from(0, oneIn(2) ? 9999 : 700);
                g[2] = m.count(0) == 0 ? g[0] % 10000 : answerFor(Math.floorMod(g[0], 99990000), hw);
                got = () -> x.see(g[0], g[1], g[2]);
                want = () -> m.see(g[0], g[1], g[2]);
                break;
            }
            case 12: {
                g[0] = from(0, 5);
                g[1] = from(-1, 12);
                g[2] = from(1, 15);
                if (oneIn(2)) {
                    int size = 16 + upTo(12);
                    due("row", g, x.row(g[0], 2, size), modelled(() -> m.row(g[0], 2, size)));
                    row(g[0]);
                }
                got = () -> x.asks(g[0], g[1], g[2]);
                want = () -> m.asks(g[0], g[1], g[2]);
                break;
            }
            case 13: {
                g[0] = from(0, Math.max(0, m.count(1) - 1));
                g[1] = from(0, 3);
                got = () -> x.seen(g[0], g[1]);
                want = () -> m.seen(g[0], g[1]);
                break;
            }
            case 14: {
                g[0] = headNumber();
                g[1] = from(0, 9999);
                got = () -> x.fits(g[0], g[1]);
                want = () -> m.fits(g[0], g[1]);
                break;
            }
            case 15: {
                g[0] = headNumber();
                g[1] = from(0, 1);
                got = () -> x.best(g[0], g[1]);
                want = () -> m.best(g[0], g[1]);
                break;
            }
            case 16: {
                g[0] = headWay();
                g[1] = from(0, Math.max(0, m.count(1) - 1));
                g[2] = from(0, 1);
                got = () -> x.slip(g[0], g[1], g[2]);
                want = () -> m.slip(g[0], g[1], g[2]);
                break;
            }
            case 17: {
                g[0] = headNumber();
                got = () -> x.suits(g[0]);
                want = () -> m.suits(g[0]);
                break;
            }
            case 18: {
                g[0] = oneIn(40) ? pair() : lowPair();
                got = () -> x.tell(g[0]);
                want = () -> m.tell(g[0]);
                break;
            }
            case 19: {
                got = x::untell;
                want = m::untell;
                break;
            }
            case 20: {
                g[0] = headNumber();
                g[1] = from(0, 127);
                g[2] = from(0, 1);
                got = () -> x.parts(g[0], g[1], g[2]);
                want = () -> m.parts(g[0], g[1], g[2]);
                break;
            }
            case 21: {
                g[0] = headNumber();
                g[1] = oneIn(2) && m.count(3) > 0 ? Check.pair(7, 1 + upTo(20)) : lowPair();
                got = () -> x.ask(g[0], g[1]);
                want = () -> m.ask(g[0], g[1]);
                break;
            }
            case 22: {
                g[0] = headNumber();
                g[1] = from(1, 50);
                g[2] = from(0, 1);
                got = () -> x.taught(g[0], g[1], g[2]);
                want = () -> m.taught(g[0], g[1], g[2]);
                break;
            }
            case 23: {
                g[0] = headNumber();
                g[1] = from(0, 1);
                got = () -> x.first(g[0], g[1]);
                want = () -> m.first(g[0], g[1]);
                break;
            }
            default:
                makeLastCall(call, g);
                return;
        }
        due(NAMES[call], g, got.answer(), modelled(want));
    }

    private void makeLastCall(int call, int[] g) {
        Call got;
        Call want;
        switch (call) {
            case 24: case 25: case 26: {
                long number = longNumber();
                g[0] = oneIn(20) ? from(0, 6) : pick(random, 2, 3, 5);
                g[1] = 100 * g[0] + from(1, oneIn(2) ? 18 : String.valueOf(number).length());
                g[2] = from(0, 1);
                got = () -> call == 24 ? x.root(number, g[0])
                        : call == 25 ? x.firsts(number, g[1], g[2]) : x.enough(number, g[0]);
                want = () -> call == 24 ? m.root(number, g[0])
                        : call == 25 ? m.firsts(number, g[1], g[2]) : m.enough(number, g[0]);
                due(NAMES[call] + " of " + number, g, got.answer(), modelled(want));
                return;
            }
            case 27: {
                got = x::undo;
                want = m::undo;
                break;
            }
            case 28: {
                got = x::redo;
                want = m::redo;
                break;
            }
            case 29: {
                g[0] = from(0, 7);
                got = () -> x.body(g[0]);
                want = () -> m.body(g[0]);
                break;
            }
            case 30: {
                g[0] = from(0, Math.max(0, m.count(5) - 1));
                g[1] = from(0, 3);
                g[2] = oneIn(3) ? random.nextInt() : from(-20, 20);
                got = () -> x.act(g[0], g[1], g[2]);
                want = () -> m.act(g[0], g[1], g[2]);
                break;
            }
            case 31: {
                g[0] = from(0, 12);
                got = () -> x.trace(g[0]);
                want = () -> m.trace(g[0]);
                break;
            }
            case 32: {
                g[0] = from(0, 5);
                g[1] = from(-1, m.count(5));
                got = () -> x.keep(g[0], g[1]);
                want = () -> m.keep(g[0], g[1]);
                break;
            }
            case 33: {
                g[0] = from(0, 5);
                g[1] = from(0, 4);
                g[2] = from(0, 60);
                got = () -> x.row(g[0], g[1], g[2]);
                want = () -> m.row(g[0], g[1], g[2]);
                break;
            }
            default:
                makeShelfCall(call, g);
                return;
        }
        due(NAMES[call], g, got.answer(), modelled(want));
    }

    private void makeShelfCall(int call, int[] g) {
        Call got;
        Call want;
        switch (call) {
            case 34: {
                g[0] = from(0, 5);
                g[1] = from(0, 40);
                long v = oneIn(3) ? random.nextLong() : from(-300, 300);
                got = () -> x.put(g[0], g[1], v);
                want = () -> m.put(g[0], g[1], v);
                break;
            }
            case 35: {
                g[0] = from(0, 5);
                g[1] = from(0, 40);
                got = () -> x.element(g[0], g[1]);
                want = () -> m.element(g[0], g[1]);
                break;
            }
            case 36: {
                g[0] = from(0, 5);
                g[1] = from(0, 20);
                g[2] = oneIn(3) ? g[0] : from(0, 5);
                g[3] = from(0, 20);
                g[4] = from(0, 20);
                got = () -> x.shift(g[0], g[1], g[2], g[3], g[4]);
                want = () -> m.shift(g[0], g[1], g[2], g[3], g[4]);
                break;
            }
            case 37: {
                g[0] = from(0, 5);
                g[1] = from(0, 7);
                got = () -> x.taken(g[0], g[1]);
                want = () -> m.taken(g[0], g[1]);
                break;
            }
            default: {
                g[0] = from(0, 6);
                got = () -> x.count(g[0]);
                want = () -> m.count(g[0]);
                break;
            }
        }
        due(NAMES[call], g, got.answer(), modelled(want));
    }

    private void compareStates(int shelf) {
        for (int what = 0; what <= 6; what++) {
            due("at the end count", new int[] {what}, x.count(what), m.count(what));
        }
        for (int head = 0; head < m.count(0); head++) {
            for (int what = 0; what <= 5; what++) {
                due("at the end of", new int[] {head, what}, x.of(head, what), m.of(head, what));
            }
        }
        for (int i = 0; i <= 60; i++) {
            due("at the end element", new int[] {shelf, i}, x.element(shelf, i), m.element(shelf, i));
        }
        CHECK.that(run + "no more than 512 calls", calls <= 512);
    }

    public static void main(String[] args) {
        int runs = args.length > 0 ? Integer.parseInt(args[0]) : 800;
        for (int seed = 1; seed <= runs; seed++) {
            ModelTest test = new ModelTest(seed);
            if (seed % 5 == 0) {
                test.fillHeads();
            }
            while (test.calls < MOST_DRAWN) {
                test.draw();
            }
            test.compareStates(seed % 6);
        }
        CHECK.end();
    }
}
