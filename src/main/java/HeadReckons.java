/** A head that reckons products of numbers by ways of acts; ../shared/DOC.md is its document. */
public final class HeadReckons {
    public static final int BAD = -1, NOT = -2, FULL = -3, STATE = -5, VOID = -2000000000;

    private static final int NOTHING_THERE = -11, OTHER_KIND = -12, NO_PLACE = -13, SIZE_BELOW_0 = -14;
    private static final int PAIR_BASE = 10000, MOST_NUMBER = 9999, MOST_TAUGHT = 99;
    private static final int MOST_HEADS = 6, MOST_TOLD = 8, MOST_ORDERED = 5, SHELVES = 6;
    private static final int WAYS = 7, WAY_LEFT = 1, WAY_CHOSEN = 7;
    private static final int LEAST_TABLE = 9, MOST_TABLE = 99, TIMES_TO_LEARN = 3, TIMES_EACH = 3;

    private final Tape tape;
    private final Head[] heads;
    private int headCount;
    private final Head thought;
    private final Choice chooser;
    private final Acts acts;
    private final SeenAsks seenAsks;
    private final int[] told;
    private int toldCount;
    private final int[] secondsFresh;
    private final int[] secondsLearnt;
    private final int[] order;
    private final Changes changes;
    private final Bodies bodies;
    private final Shelf[] shelves;

    public HeadReckons() {
        tape = new Tape();
        heads = new Head[MOST_HEADS];
        for (int i = 0; i < MOST_HEADS; i++) {
            heads[i] = new Head();
        }
        thought = new Head();
        chooser = new Choice();
        acts = new Acts();
        seenAsks = new SeenAsks();
        told = new int[MOST_TOLD];
        secondsFresh = new int[MOST_ORDERED];
        secondsLearnt = new int[MOST_ORDERED];
        order = new int[MOST_ORDERED];
        changes = new Changes();
        bodies = new Bodies();
        shelves = new Shelf[SHELVES];
        for (int i = 0; i < SHELVES; i++) {
            shelves[i] = new Shelf();
        }
    }

    // ---- heads, the choice

    public int feed(int n, int v) {
        if (n < 1 || n > 4) {
            return BAD;
        }
        return tape.takes(n, v) ? tape.length() : FULL;
    }

    public int head() {
        if (headCount >= MOST_HEADS) {
            return FULL;
        }
        int fault = thought.read(tape);
        tape.clear();
        if (fault >= 0) {
            return -100 - fault;
        }
        heads[headCount].become(thought);
        headCount++;
        return headCount - 1;
    }

    public int of(int head, int what) {
        if (!isHead(head) || what < 0 || what > Head.NUMBERS) {
            return BAD;
        }
        return what == Head.NUMBERS ? heads[head].learntCount() : heads[head].number(what);
    }

    public int turn(int head, int what, int v) {
        if (!isHead(head) || !Head.mayBe(what, v)) {
            return BAD;
        }
        int was = heads[head].number(what);
        if (was != v) {
            changes.came(head, what, was, v);
            heads[head].setNumber(what, v);
        }
        return was;
    }

    public int choice() {
        int fault = chooser.read(tape);
        tape.clear();
        return fault >= 0 ? -100 - fault : 1;
    }

    // ---- ways (ab: 10000 times a, and b; hw: 10 times the HEAD, and the WAY, here and further on)

    public int way(int hw, int ab, int what) {
        if (!isHeadAndWay(hw) || !isPair(ab) || what < 0 || what > 2) {
            return BAD;
        }
        if (!acts.reckon(heads[hw / 10], hw % 10, ab)) {
            return NOT;
        }
        if (what == 0) {
            return acts.seconds();
        }
        return what == 1 ? acts.holds() : acts.size();
    }

    public int step(int hw, int ab, int i, int what) {
        if (!isHeadAndWay(hw) || !isPair(ab) || what < 0 || what > 3) {
            return VOID;
        }
        if (!acts.reckon(heads[hw / 10], hw % 10, ab) || i < 0 || i >= acts.size()) {
            return VOID;
        }
        return acts.told(i, what);
    }

    public int chosen(int head, int ab) {
        if (!isHead(head) || !isPair(ab)) {
            return BAD;
        }
        return reckonChosen(heads[head], ab);
    }

    public int answer(int hw, int ab, int seed) {
        if (!isHeadAndWay(hw) || !isPair(ab)) {
            return VOID;
        }
        Head head = heads[hw / 10];
        if (!acts.reckon(head, hw % 10, ab)) {
            return VOID;
        }
        return productOf(ab) + acts.slipsDrawn(seed, head.capacity());
    }

    public int quickest(int head, int ab, int digits) {
        if (!isHead(head) || !isPair(ab) || digits < 1 || digits > 99) {
            return BAD;
        }
        int quickest = NOT;
        int least = 0;
        for (int way = 0; way < WAYS; way++) {
            if (acts.reckon(heads[head], way, ab) && acts.holds() <= digits
                    && (quickest == NOT || acts.seconds() < least)) {
                quickest = way;
                least = acts.seconds();
            }
        }
        return quickest;
    }

    public int table(int head, int ab, int tenths) {
        if (!isHead(head) || !isPair(ab)) {
            return BAD;
        }
        thought.become(heads[head]);
        for (int table = LEAST_TABLE; table <= MOST_TABLE; table++) {
            thought.setNumber(Head.TABLE, table);
            reckonChosen(thought, ab);
            if (acts.seconds() <= tenths) {
                return table;
            }
        }
        return NOT;
    }

    // ---- what is seen

    public int see(int ab, int tenths, int answer) {
        if (!isPair(ab) || !SeenAsks.mayBe(tenths, answer)) {
            return BAD;
        }
        return seenAsks.takes(ab, tenths, answer) ? seenAsks.size() - 1 : FULL;
    }

    public int asks(int shelf, int i, int n) {
        if (!isShelf(shelf) || n < 1 || n > 15) {
            return BAD;
        }
        Shelf from = shelves[shelf];
        if (from.isEmpty()) {
            return 0;
        }
        if (!from.holdsInts()) {
            return OTHER_KIND;
        }
        for (int came = 0; came < n; came++) {
            if (!comesFrom(from, (long) i + 4L * came)) {
                return came;
            }
        }
        return n;
    }

    public int seen(int ask, int what) {
        if (!seenAsks.has(ask)) {
            return VOID;
        }
        switch (what) {
            case 0: return seenAsks.pair(ask) / PAIR_BASE;
            case 1: return seenAsks.pair(ask) % PAIR_BASE;
            case 2: return seenAsks.tenths(ask);
            case 3: return offOf(ask);
            default: return VOID;
        }
    }

    public int fits(int head, int x) {
        if (!isHead(head) || x < 0 || x > 9999) {
            return BAD;
        }
        if (seenAsks.size() == 0) {
            return STATE;
        }
        int bits = 0;
        for (int way = 0; way < WAYS; way++) {
            if (fitsAll(heads[head], way, x)) {
                bits |= 1 << way;
            }
        }
        return bits;
    }

    public int best(int head, int what) {
        if (!isHead(head) || what < 0 || what > 1) {
            return BAD;
        }
        if (seenAsks.size() == 0) {
            return STATE;
        }
        int best = WAY_CHOSEN;
        int least = sumOfDifferences(heads[head], WAY_CHOSEN);
        for (int way = WAYS - 1; way >= 0; way--) {
            int sum = sumOfDifferences(heads[head], way);
            if (sum != NOT && sum <= least) {
                best = way;
                least = sum;
            }
        }
        return what == 0 ? best : least;
    }

    public int slip(int hw, int ask, int what) {
        if (!isHeadAndWay(hw) || !seenAsks.has(ask) || what < 0 || what > 1) {
            return BAD;
        }
        int off = offOf(ask);
        if (off == 0) {
            return BAD;
        }
        if (!acts.reckon(heads[hw / 10], hw % 10, seenAsks.pair(ask))) {
            return NOT;
        }
        return what == 0 ? acts.firstThatCan(off) : acts.howManyCan(off);
    }

    public int suits(int head) {
        if (!isHead(head)) {
            return BAD;
        }
        int all = seenAsks.size();
        if (all == 0) {
            return STATE;
        }
        int suited = 0;
        for (int ask = 0; ask < all; ask++) {
            acts.reckon(heads[head], WAY_LEFT, seenAsks.pair(ask));
            int half = acts.seconds() / 2;
            reckonChosen(heads[head], seenAsks.pair(ask));
            if (acts.seconds() <= half) {
                suited++;
            }
        }
        return suited * 1000 / all;
    }

    // ---- asks told, teaching

    public int tell(int ab) {
        if (!isPair(ab)) {
            return BAD;
        }
        if (toldCount >= MOST_TOLD) {
            return FULL;
        }
        told[toldCount] = ab;
        toldCount++;
        return toldCount;
    }

    public int untell() {
        int had = toldCount;
        toldCount = 0;
        return had;
    }

    public int parts(int head, int ways, int what) {
        if (!isHead(head) || ways < 0 || ways >= 1 << WAYS || what < 0 || what > 1) {
            return BAD;
        }
        if (toldCount == 0) {
            return STATE;
        }
        int parting = NOT;
        int greatest = NOT;
        for (int i = 0; i < toldCount; i++) {
            int spread = spreadOf(heads[head], ways, told[i]);
            if (spread > greatest) {
                parting = i;
                greatest = spread;
            }
        }
        return what == 0 ? parting : greatest;
    }

    public int ask(int head, int ab) {
        if (!isHead(head) || !isPair(ab)) {
            return BAD;
        }
        return heads[head].hear(ab);
    }

    public int taught(int head, int n, int what) {
        if (!isHead(head) || n < 1 || n > 50 || what < 0 || what > 1 || !allToldCanBeTaught()) {
            return BAD;
        }
        if (toldCount == 0) {
            return STATE;
        }
        thought.become(heads[head]);
        int seconds = 0;
        for (int i = 0; i < n; i++) {
            int pair = told[i % toldCount];
            reckonChosen(thought, pair);
            seconds += acts.seconds();
            thought.hear(pair);
        }
        return what == 0 ? seconds : thought.learntCount();
    }

    public int first(int head, int what) {
        if (!isHead(head) || what < 0 || what > 1 || !allToldCanBeTaught()) {
            return BAD;
        }
        if (toldCount == 0) {
            return STATE;
        }
        int size = Math.min(toldCount, MOST_ORDERED);
        prepareOrders(heads[head], size);
        int digits = orderAsDigits(size);
        int least = secondsOfOrder(heads[head], size);
        for (int i = 0; i < 120 && nextOrder(size); i++) {
            int seconds = secondsOfOrder(heads[head], size);
            if (seconds < least) {
                digits = orderAsDigits(size);
                least = seconds;
            }
        }
        return what == 0 ? digits : least;
    }

    // ---- roots

    public int root(long number, int power) {
        if (!Roots.isNumber(number) || !Roots.isPower(power)) {
            return BAD;
        }
        return (int) Roots.whole(number, power);
    }

    public int firsts(long number, int pf, int what) {
        int power = pf / 100;
        int f = pf % 100;
        if (!Roots.isNumber(number) || !Roots.isPower(power) || f < 1 || f > Figures.sizeOf(number)) {
            return BAD;
        }
        if (what == 0) {
            return (int) Roots.howMany(number, power, f);
        }
        return what == 1 ? (int) Roots.least(number, power, f) : BAD;
    }

    public int enough(long number, int power) {
        if (!Roots.isNumber(number) || !Roots.isPower(power)) {
            return BAD;
        }
        if (Roots.whole(number, power) == 0) {
            return NOT;
        }
        int size = Figures.sizeOf(number);
        for (int f = 1; f < size; f++) {
            if (Roots.howMany(number, power, f) == 1) {
                return f;
            }
        }
        return size;
    }

    public int undo() {
        if (changes.undoable() == 0) {
            return STATE;
        }
        changes.stepBack(heads);
        return changes.undoable();
    }

    public int redo() {
        if (changes.redoable() == 0) {
            return STATE;
        }
        changes.stepOn(heads);
        return changes.redoable();
    }

    // ---- acts, shelves

    public int body(int kind) {
        if (!Bodies.isKind(kind)) {
            return BAD;
        }
        return bodies.takes(kind) ? bodies.size() - 1 : FULL;
    }

    public int act(int body, int act, int x) {
        return bodies.start(body, act, x);
    }

    public int trace(int i) {
        return bodies.traced(i);
    }

    public int keep(int shelf, int body) {
        if (!isShelf(shelf) || (body != -1 && !bodies.has(body))) {
            return BAD;
        }
        shelves[shelf].holdBody(body);
        return 1;
    }

    public int row(int shelf, int sort, int n) {
        if (!isShelf(shelf) || !Shelf.isSort(sort) || n > Shelf.MOST_ELEMENTS) {
            return BAD;
        }
        if (n < 0) {
            return SIZE_BELOW_0;
        }
        shelves[shelf].holdRow(sort, n);
        return 1;
    }

    public int put(int shelf, int i, long v) {
        int refusal = refusalAt(shelf, i);
        if (refusal != 0) {
            return refusal;
        }
        shelves[shelf].setElement(i, v);
        return 1;
    }

    public long element(int shelf, int i) {
        return refusalAt(shelf, i) != 0 ? Long.MIN_VALUE : shelves[shelf].elementAt(i);
    }

    public int shift(int shelf, int i, int other, int j, int n) {
        if (!isShelf(shelf) || !isShelf(other)) {
            return BAD;
        }
        Shelf from = shelves[shelf];
        Shelf to = shelves[other];
        if (from.isEmpty() || to.isEmpty()) {
            return NOTHING_THERE;
        }
        if (!from.holdsRow() || !to.holdsRow() || from.sort() != to.sort()) {
            return OTHER_KIND;
        }
        if (!from.hasPlaces(i, n) || !to.hasPlaces(j, n)) {
            return NO_PLACE;
        }
        to.copyFrom(from, i, j, n);
        return n;
    }

    public int taken(int shelf, int k) {
        if (!isShelf(shelf) || !Bodies.isKind(k)) {
            return BAD;
        }
        Shelf from = shelves[shelf];
        if (from.isEmpty()) {
            return NOTHING_THERE;
        }
        if (from.holdsRow() || !Bodies.isUnder(bodies.kindOf(from.bodyHeld()), k)) {
            return OTHER_KIND;
        }
        return bodies.kindOf(from.bodyHeld());
    }

    public int count(int what) {
        switch (what) {
            case 0: return headCount;
            case 1: return seenAsks.size();
            case 2: return tape.length();
            case 3: return toldCount;
            case 4: return changes.undoable();
            case 5: return bodies.size();
            case 6: return bodies.ranCount();
            default: return BAD;
        }
    }

    // ---- what a number tells of

    private boolean isHead(int head) {
        return head >= 0 && head < headCount;
    }

    private boolean isHeadAndWay(int hw) {
        return hw >= 0 && hw / 10 < headCount && hw % 10 < WAYS;
    }

    private static boolean isShelf(int shelf) {
        return shelf >= 0 && shelf < SHELVES;
    }

    private static boolean isNumber(int number) {
        return number >= 1 && number <= MOST_NUMBER;
    }

    private static boolean isPair(int ab) {
        return isNumber(ab / PAIR_BASE) && isNumber(ab % PAIR_BASE);
    }

    private static boolean canBeTaught(int ab) {
        return ab / PAIR_BASE <= MOST_TAUGHT && ab % PAIR_BASE <= MOST_TAUGHT;
    }

    private static int productOf(int ab) {
        return (ab / PAIR_BASE) * (ab % PAIR_BASE);
    }

    // ---- what ways take

    /** The way chosen; its acts stand in the row then. */
    private int reckonChosen(Head head, int ab) {
        int way = chooser.numberFor(head, ab);
        if (acts.reckon(head, way, ab)) {
            return way;
        }
        acts.reckon(head, WAY_LEFT, ab);
        return WAY_LEFT;
    }

    private int spreadOf(Head head, int ways, int ab) {
        int least = NOT;
        int greatest = NOT;
        for (int way = 0; way < WAYS; way++) {
            if ((ways >> way & 1) == 0 || !acts.reckon(head, way, ab)) {
                continue;
            }
            int seconds = acts.seconds();
            least = least == NOT ? seconds : Math.min(least, seconds);
            greatest = Math.max(greatest, seconds);
        }
        return least == NOT ? NOT : greatest - least;
    }

    // ---- what seen asks tell

    private int offOf(int ask) {
        return seenAsks.answerOf(ask) - productOf(seenAsks.pair(ask));
    }

    private boolean comesFrom(Shelf shelf, long place) {
        if (place < 0 || place + 3 >= shelf.size()) {
            return false;
        }
        int i = (int) place;
        int a = (int) shelf.elementAt(i);
        int b = (int) shelf.elementAt(i + 1);
        int tenths = (int) shelf.elementAt(i + 2);
        int answer = (int) shelf.elementAt(i + 3);
        return isNumber(a) && isNumber(b) && SeenAsks.mayBe(tenths, answer)
                && seenAsks.takes(a * PAIR_BASE + b, tenths, answer);
    }

    private boolean fitsAll(Head head, int way, int x) {
        for (int ask = 0; ask < seenAsks.size(); ask++) {
            if (!acts.reckon(head, way, seenAsks.pair(ask))) {
                return false;
            }
            int off = offOf(ask);
            boolean canBe = off == 0 || acts.firstThatCan(off) != NOT;
            if (!canBe || Math.abs(acts.seconds() - seenAsks.tenths(ask)) > x) {
                return false;
            }
        }
        return true;
    }

    private int sumOfDifferences(Head head, int way) {
        int sum = 0;
        for (int ask = 0; ask < seenAsks.size(); ask++) {
            if (way == WAY_CHOSEN) {
                reckonChosen(head, seenAsks.pair(ask));
            } else if (!acts.reckon(head, way, seenAsks.pair(ask))) {
                return NOT;
            }
            sum += Math.abs(acts.seconds() - seenAsks.tenths(ask));
        }
        return sum;
    }

    // ---- teaching in thought

    private boolean allToldCanBeTaught() {
        for (int i = 0; i < toldCount; i++) {
            if (!canBeTaught(told[i])) {
                return false;
            }
        }
        return true;
    }

    /** An ask's seconds change only when it is learnt: both are reckoned once for all orders. */
    private void prepareOrders(Head head, int size) {
        for (int i = 0; i < size; i++) {
            order[i] = i;
            thought.become(head);
            reckonChosen(thought, told[i]);
            secondsFresh[i] = acts.seconds();
            for (int k = 0; k < TIMES_TO_LEARN; k++) {
                thought.hear(told[i]);
            }
            reckonChosen(thought, told[i]);
            secondsLearnt[i] = acts.seconds();
        }
    }

    private int secondsOfOrder(Head head, int size) {
        thought.become(head);
        int seconds = 0;
        for (int i = 0; i < size; i++) {
            int place = order[i];
            for (int k = 0; k < TIMES_EACH; k++) {
                boolean wasLearnt = thought.hear(told[place]) > TIMES_TO_LEARN;
                seconds += wasLearnt ? secondsLearnt[place] : secondsFresh[place];
            }
        }
        return seconds;
    }

    private int orderAsDigits(int size) {
        int digits = 0;
        for (int i = 0; i < size; i++) {
            digits = digits * 10 + order[i] + 1;
        }
        return digits;
    }

    /** The next order as digits: the last rise grows as little as it can, all behind it falls back. */
    private boolean nextOrder(int size) {
        int rise = size - 2;
        while (rise >= 0 && order[rise] > order[rise + 1]) {
            rise--;
        }
        if (rise < 0) {
            return false;
        }
        int next = size - 1;
        while (next > rise + 1 && order[next] < order[rise]) {
            next--;
        }
        swapPlaces(rise, next);
        for (int i = rise + 1, j = size - 1; i < j; i++, j--) {
            swapPlaces(i, j);
        }
        return true;
    }

    private void swapPlaces(int i, int j) {
        int held = order[i];
        order[i] = order[j];
        order[j] = held;
    }

    // ---- shelves

    private int refusalAt(int shelf, int i) {
        if (!isShelf(shelf)) {
            return BAD;
        }
        if (shelves[shelf].isEmpty()) {
            return NOTHING_THERE;
        }
        if (!shelves[shelf].holdsRow()) {
            return OTHER_KIND;
        }
        return shelves[shelf].hasPlaces(i, 1) ? 0 : NO_PLACE;
    }

    private static final class Figures {
        private static final long[] TENS = {
            1L, 10L, 100L, 1000L, 10000L, 100000L, 1000000L, 10000000L, 100000000L, 1000000000L,
            10000000000L, 100000000000L, 1000000000000L, 10000000000000L, 100000000000000L,
            1000000000000000L, 10000000000000000L, 100000000000000000L, 1000000000000000000L};

        private static final int[] INT_TENS = {
            1, 10, 100, 1000, 10000, 100000, 1000000, 10000000, 100000000, 1000000000};

        static int tenTo(int power) {
            return power < 0 || power >= INT_TENS.length ? 1 : INT_TENS[power];
        }

        static long longTenTo(int power) {
            return power < 0 || power >= TENS.length ? 1L : TENS[power];
        }

        static int sizeOf(long number) {
            for (int size = 1; size < TENS.length; size++) {
                if (number < TENS[size]) {
                    return size;
                }
            }
            return TENS.length;
        }

        static int figureAt(int number, int place) {
            return place < 0 || place >= INT_TENS.length ? 0 : number / INT_TENS[place] % 10;
        }

        static int noughtsIn(int number) {
            int noughts = 0;
            for (int rest = number; rest > 0; rest /= 10) {
                if (rest % 10 == 0) {
                    noughts++;
                }
            }
            return noughts;
        }

        static boolean isDigit(int sign) {
            return sign >= '0' && sign <= '9';
        }
    }

    private static final class Tape {
        private static final int MOST_BYTES = 120;
        private final int[] bytes = new int[MOST_BYTES];
        private int length;

        int length() {
            return length;
        }

        void clear() {
            length = 0;
        }

        void become(Tape other) {
            System.arraycopy(other.bytes, 0, bytes, 0, other.length);
            length = other.length;
        }

        boolean takes(int n, int v) {
            if (length + n > MOST_BYTES) {
                return false;
            }
            for (int i = 0; i < n; i++) {
                bytes[length] = v >>> 8 * i & 255;
                length++;
            }
            return true;
        }

        /** Behind the end stands -1, which no text goes on with. */
        int at(int place) {
            return place >= 0 && place < length ? bytes[place] : -1;
        }
    }

    private static final class Head {
        static final int LOOK = 0, ADD = 1, HOLD = 2, TABLE = 3, CAPACITY = 4, NUMBERS = 5;
        private static final int[] LETTERS = {'l', 'a', 'h', 't', 'c'};
        private static final int[] LEAST = {0, 0, 0, 9, 1};
        private static final int[] MOST = {99, 99, 99, 99, 40};
        private static final int MOST_PAIRS = 60, MOST_DIGITS = 2;

        private final int[] numbers = new int[NUMBERS];
        private final int[] pairs = new int[MOST_PAIRS];
        private final int[] counts = new int[MOST_PAIRS];
        private int pairCount;

        static boolean mayBe(int what, int v) {
            return what >= 0 && what < NUMBERS && v >= LEAST[what] && v <= MOST[what];
        }

        /** The place of the text's fault; -1: the numbers are the text's, and no pair is counted. */
        int read(Tape text) {
            pairCount = 0;
            int place = 0;
            for (int what = 0; what < NUMBERS; what++) {
                if (text.at(place) != LETTERS[what]) {
                    return place;
                }
                place++;
                int digits = digitsAt(text, place);
                int value = valueAt(text, place, digits);
                if (digits == 0 || !mayBe(what, value)) {
                    return place;
                }
                numbers[what] = value;
                place += digits;
            }
            return place == text.length() ? -1 : place;
        }

        private static int digitsAt(Tape text, int place) {
            int digits = 0;
            while (digits < MOST_DIGITS && Figures.isDigit(text.at(place + digits))) {
                digits++;
            }
            return digits;
        }

        private static int valueAt(Tape text, int place, int digits) {
            int value = 0;
            for (int i = 0; i < digits; i++) {
                value = value * 10 + text.at(place + i) - '0';
            }
            return value;
        }

        void become(Head other) {
            System.arraycopy(other.numbers, 0, numbers, 0, NUMBERS);
            System.arraycopy(other.pairs, 0, pairs, 0, other.pairCount);
            System.arraycopy(other.counts, 0, counts, 0, other.pairCount);
            pairCount = other.pairCount;
        }

        int number(int what) {
            return what >= 0 && what < NUMBERS ? numbers[what] : 0;
        }

        void setNumber(int what, int v) {
            if (what >= 0 && what < NUMBERS) {
                numbers[what] = v;
            }
        }

        int capacity() {
            return numbers[CAPACITY];
        }

        boolean looksUp(int ab) {
            if (ab / PAIR_BASE <= numbers[TABLE] && ab % PAIR_BASE <= numbers[TABLE]) {
                return true;
            }
            int i = placeOf(ab);
            return i < pairCount && counts[i] >= TIMES_TO_LEARN;
        }

        int learntCount() {
            int learnt = 0;
            for (int i = 0; i < pairCount; i++) {
                if (counts[i] >= TIMES_TO_LEARN) {
                    learnt++;
                }
            }
            return learnt;
        }

        /** Counts a pair; 0: it is not counted. */
        int hear(int ab) {
            int i = placeOf(ab);
            if (!canBeTaught(ab) || i >= MOST_PAIRS) {
                return 0;
            }
            if (i == pairCount) {
                pairs[i] = ab;
                counts[i] = 0;
                pairCount++;
            }
            counts[i]++;
            return counts[i];
        }

        /** Where the pair is counted, either way about; behind all of them, if it is not. */
        private int placeOf(int ab) {
            int turned = ab % PAIR_BASE * PAIR_BASE + ab / PAIR_BASE;
            for (int i = 0; i < pairCount; i++) {
                if (pairs[i] == ab || pairs[i] == turned) {
                    return i;
                }
            }
            return pairCount;
        }
    }

    /** The text, kept as a row of codes: numbers as they are, all else as its sign below 0, operands first. */
    private static final class Choice {
        private static final int MOST_OPEN = 6, MOST_DIGITS = 4, MOST_CODES = 128;
        private static final int NEGATED = '~', WITHOUT_TEXT = 1;

        private final int[] codes = new int[MOST_CODES];
        private int codeCount;
        private final int[] draft = new int[MOST_CODES];
        private int draftCount;
        private final int[] stack = new int[MOST_CODES];
        private int stackSize;
        private final Tape text;
        private int place;

        Choice() {
            text = new Tape();
        }

        /** The place of the text's fault; -1: it is the choice now. */
        int read(Tape tape) {
            text.become(tape);
            place = 0;
            draftCount = 0;
            if (!readLines()) {
                return place;
            }
            System.arraycopy(draft, 0, codes, 0, draftCount);
            codeCount = draftCount;
            return -1;
        }

        private boolean readLines() {
            for (int i = 0; i <= text.length(); i++) {
                if (!readLine()) {
                    return false;
                }
                if (!goesOnWith(';')) {
                    return place == text.length();
                }
            }
            return false;
        }

        private boolean readLine() {
            if (!readAny(0)) {
                return false;
            }
            if (goesOnWith('?')) {
                write('?');
                if (!readAny(0)) {
                    return false;
                }
            }
            write(';');
            return true;
        }

        private boolean readAny(int open) {
            if (!readAll(open)) {
                return false;
            }
            for (int i = 0; i < text.length() && goesOnWith('|'); i++) {
                if (!readAll(open)) {
                    return false;
                }
                write('|');
            }
            return true;
        }

        private boolean readAll(int open) {
            if (!readCompared(open)) {
                return false;
            }
            for (int i = 0; i < text.length() && goesOnWith('&'); i++) {
                if (!readCompared(open)) {
                    return false;
                }
                write('&');
            }
            return true;
        }

        private boolean readCompared(int open) {
            if (!readSum(open)) {
                return false;
            }
            int sign = text.at(place);
            if (sign != '<' && sign != '=' && sign != '>') {
                return true;
            }
            place++;
            if (!readSum(open)) {
                return false;
            }
            write(sign);
            return true;
        }

        private boolean readSum(int open) {
            if (!readProduct(open)) {
                return false;
            }
            for (int i = 0; i < text.length(); i++) {
                int sign = text.at(place);
                if (sign != '+' && sign != '-') {
                    return true;
                }
                place++;
                if (!readProduct(open)) {
                    return false;
                }
                write(sign);
            }
            return true;
        }

        private boolean readProduct(int open) {
            if (!readOperand(open)) {
                return false;
            }
            for (int i = 0; i < text.length(); i++) {
                int sign = text.at(place);
                if (sign != '*' && sign != '/' && sign != '%') {
                    return true;
                }
                place++;
                if (!readOperand(open)) {
                    return false;
                }
                write(sign);
            }
            return true;
        }

        private boolean readOperand(int open) {
            int sign = text.at(place);
            if (sign == '(' || sign == '!' || sign == '-') {
                return open < MOST_OPEN && readOpened(open + 1);
            }
            if (Figures.isDigit(sign)) {
                readNumber();
                return true;
            }
            if (!isName(sign)) {
                return false;
            }
            place++;
            write(sign);
            return true;
        }

        private boolean readOpened(int open) {
            int sign = text.at(place);
            place++;
            if (sign == '(') {
                return readAny(open) && goesOnWith(')');
            }
            if (!readOperand(open)) {
                return false;
            }
            write(sign == '-' ? NEGATED : sign);
            return true;
        }

        private void readNumber() {
            int value = 0;
            for (int i = 0; i < MOST_DIGITS && Figures.isDigit(text.at(place)); i++) {
                value = value * 10 + text.at(place) - '0';
                place++;
            }
            writeCode(value);
        }

        private boolean goesOnWith(int sign) {
            if (text.at(place) != sign) {
                return false;
            }
            place++;
            return true;
        }

        private void write(int sign) {
            writeCode(-sign);
        }

        private void writeCode(int code) {
            if (draftCount < MOST_CODES) {
                draft[draftCount] = code;
                draftCount++;
            }
        }

        private static boolean isName(int sign) {
            switch (sign) {
                case 'm': case 'n': case 'x': case 'y': case 'd': case 'z': case 't': case 'c':
                    return true;
                default:
                    return false;
            }
        }

        int numberFor(Head head, int ab) {
            if (codeCount == 0) {
                return WITHOUT_TEXT;
            }
            stackSize = 0;
            boolean skipsLine = false;
            for (int i = 0; i < codeCount; i++) {
                int code = codes[i];
                if (skipsLine) {
                    skipsLine = code != -';';
                } else if (code == -';') {
                    return pop();
                } else if (code == -'?') {
                    skipsLine = pop() == 0;
                } else {
                    workOut(code, head, ab);
                }
            }
            return 0;
        }

        private void workOut(int code, Head head, int ab) {
            if (code >= 0) {
                push(code);
            } else if (isName(-code)) {
                push(valueOf(-code, head, ab / PAIR_BASE, ab % PAIR_BASE));
            } else if (code == -'!') {
                push(pop() == 0 ? 1 : 0);
            } else if (code == -NEGATED) {
                push(-pop());
            } else {
                int right = pop();
                int left = pop();
                push(joined(-code, left, right));
            }
        }

        private static int valueOf(int name, Head head, int a, int b) {
            switch (name) {
                case 'm': return Figures.sizeOf(a);
                case 'n': return Figures.sizeOf(b);
                case 'x': return a % 10;
                case 'y': return b % 10;
                case 'd': return Math.abs(a - b);
                case 'z': return Figures.noughtsIn(a) + Figures.noughtsIn(b);
                case 't': return head.number(Head.TABLE);
                default: return head.capacity();
            }
        }

        private static int joined(int sign, int left, int right) {
            switch (sign) {
                case '+': return left + right;
                case '-': return left - right;
                case '*': return left * right;
                case '/': return right == 0 ? 0 : left / right;
                case '%': return right == 0 ? 0 : left % right;
                case '<': return left < right ? 1 : 0;
                case '=': return left == right ? 1 : 0;
                case '>': return left > right ? 1 : 0;
                case '&': return left != 0 && right != 0 ? 1 : 0;
                default: return left != 0 || right != 0 ? 1 : 0;
            }
        }

        private void push(int value) {
            if (stackSize < MOST_CODES) {
                stack[stackSize] = value;
                stackSize++;
            }
        }

        private int pop() {
            if (stackSize == 0) {
                return 0;
            }
            stackSize--;
            return stack[stackSize];
        }
    }

    /** The row of acts that a way makes of a pair; one row is used again for each reckoning. */
    private static final class Acts {
        private static final int LOOK = 0, ADD = 1, HOLD = 2;
        private static final int MOST_ACTS = 80, MOST_ROWS = 4;

        private final int[] sorts = new int[MOST_ACTS];
        private final int[] mades = new int[MOST_ACTS];
        private final int[] lengths = new int[MOST_ACTS];
        private final int[] helds = new int[MOST_ACTS];
        /** By what a look slips; the least by which an add slips. */
        private final int[] slips = new int[MOST_ACTS];
        private final int[] rows = new int[MOST_ROWS];
        private int size;
        private int seconds;
        private int holds;
        private int lookTenths;
        private int addTenths;
        private int holdTenths;
        private int heldDigits;
        private int running;
        private int runningDigits;
        private boolean begun;

        int size() {
            return size;
        }

        int seconds() {
            return seconds;
        }

        int holds() {
            return holds;
        }

        int told(int i, int what) {
            if (i < 0 || i >= size) {
                return VOID;
            }
            switch (what) {
                case 0: return sorts[i];
                case 1: return mades[i];
                case 2: return lengths[i];
                default: return helds[i];
            }
        }

        /** Whether there is such a way and it is not NOT; its acts stand in the row then. */
        boolean reckon(Head head, int way, int ab) {
            int a = ab / PAIR_BASE;
            int b = ab % PAIR_BASE;
            begin(head);
            switch (way) {
                case 0: return head.looksUp(ab) && goKnown(a, b);
                case 1: return goLeft(a, b);
                case 2: return goRight(a, b);
                case 3: return goCrossed(a, b);
                case 4: return (a + b) % 2 == 0 && goSquared(a, b);
                case 5: return goSplit(a, b, head.number(Head.TABLE));
                case 6: return goRight(b, a);
                default: return false;
            }
        }

        private void begin(Head head) {
            lookTenths = head.number(Head.LOOK);
            addTenths = head.number(Head.ADD);
            holdTenths = head.number(Head.HOLD);
            size = 0;
            seconds = 0;
            holds = 0;
            heldDigits = 0;
            beginAnew();
        }

        private void beginAnew() {
            running = 0;
            runningDigits = 0;
            begun = false;
        }

        private boolean goKnown(int a, int b) {
            run(a * b);
            note(LOOK, a * b, lookTenths, Math.min(a, b));
            return true;
        }

        private boolean goLeft(int a, int b) {
            for (int i = Figures.sizeOf(a) - 1; i >= 0; i--) {
                for (int j = Figures.sizeOf(b) - 1; j >= 0; j--) {
                    int noughts = Figures.tenTo(i + j);
                    lookAndAdd(Figures.figureAt(a, i), Figures.figureAt(b, j), noughts, 1);
                }
            }
            return true;
        }

        private boolean goRight(int a, int b) {
            int rowCount = 0;
            for (int place = 0; place < Figures.sizeOf(b) && rowCount < MOST_ROWS; place++) {
                int figure = Figures.figureAt(b, place);
                if (figure != 0) {
                    goLeft(a, figure * Figures.tenTo(place));
                    rows[rowCount] = running;
                    rowCount++;
                    holdRunning();
                }
            }
            if (rowCount > 1) {
                addRows(rowCount);
            }
            return true;
        }

        private void addRows(int rowCount) {
            letGo(rows[0]);
            run(rows[0]);
            for (int i = 1; i < rowCount; i++) {
                letGo(rows[i]);
                add(running + rows[i], 1);
            }
        }

        private boolean goCrossed(int a, int b) {
            int last = Figures.sizeOf(a) + Figures.sizeOf(b) - 2;
            for (int k = 0; k <= last; k++) {
                for (int i = 0; i <= k; i++) {
                    lookAndAdd(Figures.figureAt(a, i), Figures.figureAt(b, k - i), 1, Figures.tenTo(k));
                }
                holdLastFigure();
            }
            return true;
        }

        private boolean goSquared(int a, int b) {
            int s = (a + b) / 2;
            int d = Math.abs(a - b) / 2;
            goLeft(s, s);
            int square = running;
            holdRunning();
            if (d > 0) {
                goLeft(d, d);
            }
            letGo(square);
            add(square - running, 1);
            return true;
        }

        private boolean goSplit(int a, int b, int table) {
            for (int p = table; p >= 2; p--) {
                if (b % p == 0 && b / p > 1) {
                    goLeft(a, p);
                    int part = running;
                    holdRunning();
                    return goLeft(part, b / p);
                }
            }
            return false;
        }

        /** Noughts belong to what is looked up; the slip's unit tells only how much a slip counts. */
        private void lookAndAdd(int x, int y, int noughts, int slipUnit) {
            if (x == 0 || y == 0) {
                return;
            }
            int product = x * y * noughts;
            boolean adds = begun;
            if (!adds) {
                run(product);
            }
            note(LOOK, product, lookTenths, Math.min(x, y) * noughts * slipUnit);
            if (adds) {
                run(running + product);
                note(ADD, running, addTenths * runningDigits, slipUnit);
            }
        }

        private void add(int sum, int slipUnit) {
            run(sum);
            note(ADD, sum, addTenths * runningDigits, slipUnit);
        }

        private void run(int sum) {
            running = sum;
            runningDigits = 0;
            for (int rest = sum; rest > 0; rest /= 10) {
                runningDigits++;
            }
            begun = true;
        }

        private void holdRunning() {
            int held = running;
            int digits = runningDigits;
            heldDigits += digits;
            beginAnew();
            note(HOLD, held, holdTenths * digits, 0);
        }

        /** What is left goes on as the running sum, so a later look is added even to 0. */
        private void holdLastFigure() {
            int figure = running % 10;
            heldDigits++;
            running /= 10;
            runningDigits = Math.max(0, runningDigits - 1);
            note(HOLD, figure, holdTenths, 0);
        }

        private void letGo(int held) {
            heldDigits -= Figures.sizeOf(held);
        }

        private void note(int sort, int made, int length, int slipsBy) {
            if (size >= MOST_ACTS) {
                return;
            }
            sorts[size] = sort;
            mades[size] = made;
            lengths[size] = length;
            helds[size] = heldDigits + runningDigits;
            slips[size] = slipsBy;
            seconds += length;
            if (helds[size] > holds) {
                holds = helds[size];
            }
            size++;
        }

        int slipsDrawn(int seed, int capacity) {
            int z = seed;
            int sum = 0;
            for (int i = 0; i < size; i++) {
                int above = helds[i] - capacity;
                if (above <= 0) {
                    continue;
                }
                z = z * 1103515245 + 12345;
                if ((z >>> 8) % 100 < Math.min(5 * above, 95)) {
                    sum += slipDrawn(i, z >>> 20);
                }
            }
            return sum;
        }

        private int slipDrawn(int i, int draw) {
            if (sorts[i] == LOOK) {
                return draw % 2 == 1 ? slips[i] : -slips[i];
            }
            if (sorts[i] == ADD) {
                int digits = Figures.sizeOf(mades[i]);
                return digits < 1 ? 0 : -slips[i] * Figures.tenTo(draw % digits);
            }
            return 0;
        }

        private boolean canSlip(int i, int off) {
            if (sorts[i] == LOOK) {
                return off == slips[i] || off == -slips[i];
            }
            if (sorts[i] == ADD) {
                for (int e = Figures.sizeOf(mades[i]) - 1; e >= 0; e--) {
                    if (off == -slips[i] * Figures.tenTo(e)) {
                        return true;
                    }
                }
            }
            return false;
        }

        int firstThatCan(int off) {
            for (int i = 0; i < size; i++) {
                if (canSlip(i, off)) {
                    return i;
                }
            }
            return NOT;
        }

        int howManyCan(int off) {
            int can = 0;
            for (int i = 0; i < size; i++) {
                if (canSlip(i, off)) {
                    can++;
                }
            }
            return can;
        }
    }

    private static final class SeenAsks {
        private static final int MOST_SEEN = 40, MOST_TENTHS = 9999, MOST_ANSWER = 999999999;
        private final int[] pairs = new int[MOST_SEEN];
        private final int[] tenths = new int[MOST_SEEN];
        private final int[] answers = new int[MOST_SEEN];
        private int size;

        static boolean mayBe(int tenths, int answer) {
            return tenths >= 0 && tenths <= MOST_TENTHS && answer >= -MOST_ANSWER && answer <= MOST_ANSWER;
        }

        int size() {
            return size;
        }

        boolean has(int ask) {
            return ask >= 0 && ask < size;
        }

        boolean takes(int pair, int time, int answer) {
            if (size >= MOST_SEEN) {
                return false;
            }
            pairs[size] = pair;
            tenths[size] = time;
            answers[size] = answer;
            size++;
            return true;
        }

        int pair(int ask) {
            return has(ask) ? pairs[ask] : 0;
        }

        int tenths(int ask) {
            return has(ask) ? tenths[ask] : 0;
        }

        int answerOf(int ask) {
            return has(ask) ? answers[ask] : 0;
        }
    }

    private static final class Changes {
        private static final int MOST_CHANGES = 40;
        private final int[] heads = new int[MOST_CHANGES];
        private final int[] whats = new int[MOST_CHANGES];
        private final int[] befores = new int[MOST_CHANGES];
        private final int[] afters = new int[MOST_CHANGES];
        /** The changes that stand, and all that are kept: those behind were undone. */
        private int standing;
        private int kept;

        int undoable() {
            return standing;
        }

        int redoable() {
            return kept - standing;
        }

        void came(int head, int what, int before, int after) {
            if (standing >= MOST_CHANGES) {
                forgetOldest();
            }
            heads[standing] = head;
            whats[standing] = what;
            befores[standing] = before;
            afters[standing] = after;
            standing++;
            kept = standing;
        }

        private void forgetOldest() {
            standing = MOST_CHANGES - 1;
            System.arraycopy(heads, 1, heads, 0, standing);
            System.arraycopy(whats, 1, whats, 0, standing);
            System.arraycopy(befores, 1, befores, 0, standing);
            System.arraycopy(afters, 1, afters, 0, standing);
        }

        void stepBack(Head[] all) {
            if (standing > 0) {
                standing--;
                apply(all, standing, befores[standing]);
            }
        }

        void stepOn(Head[] all) {
            if (standing < kept) {
                apply(all, standing, afters[standing]);
                standing++;
            }
        }

        private void apply(Head[] all, int i, int v) {
            if (heads[i] >= 0 && heads[i] < all.length) {
                all[heads[i]].setNumber(whats[i], v);
            }
        }
    }

    /** Bodies of kinds; an act runs the body of the nearest kind, its own or above, that has one. */
    private static final class Bodies {
        private static final int KINDS = 8, ACTS = 4, MOST_BODIES = 50, MOST_TRACED = 24, MOST_DEPTH = 40;
        private static final int COSTS = 0, KEEPS = 1, SLIPS = 2, TELLS = 3;
        private static final int WAY = 0, LEFT = 1, RIGHT = 2, SQUARED = 4, SPLIT = 5, KNOWN = 6, ROOTED = 7;
        private static final int CROSSED = 3;
        private static final int[] ABOVE = {-1, WAY, WAY, RIGHT, WAY, LEFT, WAY, KNOWN};
        /** Of each kind its own bodies of the four acts, 0 where it has none; WAY has those of COSTS and TELLS. */
        private static final int[] OWN = {
            1, 10, 11, 2,
            20, 0, 0, 0,
            0, 30, 0, 0,
            0, 0, 40, 0,
            0, 0, 0, 50,
            60, 0, 61, 0,
            0, 0, 70, 0,
            0, 80, 0, 81};

        private final int[] kinds = new int[MOST_BODIES];
        private int size;
        private final int[] traces = new int[MOST_TRACED];
        private int ran;
        private int self;

        static boolean isKind(int kind) {
            return kind >= 0 && kind < KINDS;
        }

        static boolean isUnder(int kind, int above) {
            int k = kind;
            for (int i = 0; i < KINDS && isKind(k); i++) {
                if (k == above) {
                    return true;
                }
                k = ABOVE[k];
            }
            return false;
        }

        int size() {
            return size;
        }

        int ranCount() {
            return ran;
        }

        boolean has(int body) {
            return body >= 0 && body < size;
        }

        int kindOf(int body) {
            return has(body) ? kinds[body] : -1;
        }

        boolean takes(int kind) {
            if (size >= MOST_BODIES) {
                return false;
            }
            kinds[size] = kind;
            size++;
            return true;
        }

        int traced(int i) {
            return i >= 0 && i < ran && i < MOST_TRACED ? traces[i] : BAD;
        }

        int start(int body, int act, int x) {
            ran = 0;
            if (!has(body) || act < 0 || act >= ACTS) {
                return 0;
            }
            self = body;
            return own(act, x, 0);
        }

        private int own(int act, int x, int depth) {
            return nearest(kindOf(self), act, x, depth);
        }

        private int fromAbove(int kind, int act, int x, int depth) {
            return nearest(isKind(kind) ? ABOVE[kind] : -1, act, x, depth);
        }

        private int nearest(int kind, int act, int x, int depth) {
            int k = kind;
            for (int i = 0; i < KINDS && isKind(k); i++) {
                int number = OWN[k * ACTS + act];
                if (number != 0) {
                    return depth < MOST_DEPTH ? run(number, x, depth + 1) : 0;
                }
                k = ABOVE[k];
            }
            return 0;
        }

        private int run(int number, int x, int depth) {
            noteRun(number);
            switch (number) {
                case 1: return x + self;
                case 2: return own(KEEPS, x, depth) - own(SLIPS, 1, depth);
                case 10: return own(COSTS, x, depth) * 2;
                case 11: return x ^ self;
                case 20: return fromAbove(LEFT, COSTS, x, depth) + 3;
                case 30: return -fromAbove(RIGHT, KEEPS, x, depth);
                case 40: return fromAbove(CROSSED, SLIPS, x, depth) * 3;
                case 50: return fromAbove(SQUARED, TELLS, x, depth) ^ 5;
                case 60: return fromAbove(SPLIT, COSTS, x + 1, depth);
                case 61: return fromAbove(SPLIT, SLIPS, x, depth) + own(COSTS, 2, depth);
                case 70: return fromAbove(KNOWN, SLIPS, x, depth) - 1;
                case 80: return fromAbove(ROOTED, KEEPS, x, depth) * 2;
                case 81: return fromAbove(ROOTED, TELLS, x, depth) - own(SLIPS, 2, depth);
                default: return 0;
            }
        }

        private void noteRun(int number) {
            if (ran < MOST_TRACED) {
                traces[ran] = number;
            }
            ran++;
        }
    }

    /** Rows of all sorts lie in longs: what is put in is cut to its sort first. */
    private static final class Shelf {
        static final int MOST_ELEMENTS = 60;
        private static final int SORTS = 5, INTS = 2, NONE = -1;
        private int body = NONE;
        private int sort = NONE;
        private int size;
        private final long[] elements = new long[MOST_ELEMENTS];

        static boolean isSort(int sort) {
            return sort >= 0 && sort < SORTS;
        }

        boolean isEmpty() {
            return body == NONE && sort == NONE;
        }

        boolean holdsRow() {
            return sort != NONE;
        }

        boolean holdsInts() {
            return sort == INTS;
        }

        int bodyHeld() {
            return body;
        }

        int sort() {
            return sort;
        }

        int size() {
            return size;
        }

        void holdBody(int number) {
            body = number;
            sort = NONE;
            size = 0;
        }

        void holdRow(int rowSort, int n) {
            body = NONE;
            sort = rowSort;
            size = Math.max(0, Math.min(n, MOST_ELEMENTS));
            for (int i = 0; i < MOST_ELEMENTS; i++) {
                elements[i] = 0L;
            }
        }

        boolean hasPlaces(int i, int n) {
            return i >= 0 && n >= 0 && (long) i + n <= size;
        }

        long elementAt(int i) {
            return hasPlaces(i, 1) ? elements[i] : 0L;
        }

        void setElement(int i, long v) {
            if (!hasPlaces(i, 1)) {
                return;
            }
            switch (sort) {
                case 0: elements[i] = (byte) v; break;
                case 1: elements[i] = (short) v; break;
                case 2: elements[i] = (int) v; break;
                case 4: elements[i] = v != 0L ? 1L : 0L; break;
                default: elements[i] = v; break;
            }
        }

        void copyFrom(Shelf other, int i, int j, int n) {
            if (other.hasPlaces(i, n) && hasPlaces(j, n)) {
                System.arraycopy(other.elements, i, elements, j, n);
            }
        }
    }

    private static final class Roots {
        private static final long MOST_NUMBER = 999999999999999999L;

        static boolean isNumber(long number) {
            return number >= 1L && number <= MOST_NUMBER;
        }

        static boolean isPower(int power) {
            return power == 2 || power == 3 || power == 5;
        }

        /** Above it no power has 18 figures or fewer, and its own still is a long. */
        private static long mostRoot(int power) {
            if (power == 2) {
                return 1000000000L;
            }
            return power == 3 ? 1000000L : 3982L;
        }

        private static long raised(long r, int power) {
            long product = 1L;
            for (int i = 0; i < power; i++) {
                product *= r;
            }
            return product;
        }

        /** The greatest r whose power is the number at most. */
        private static long cutRoot(long number, int power) {
            long low = 0L;
            long high = mostRoot(power);
            for (int i = 0; i < 40 && low < high; i++) {
                long middle = (low + high + 1L) / 2L;
                if (raised(middle, power) <= number) {
                    low = middle;
                } else {
                    high = middle - 1L;
                }
            }
            return low;
        }

        /** The whole root; 0: none. */
        static long whole(long number, int power) {
            long r = cutRoot(number, power);
            return raised(r, power) == number ? r : 0L;
        }

        private static long leastWithFirsts(long number, int f) {
            long unit = unitOf(number, f);
            return unit < 1L ? number : number / unit * unit;
        }

        private static long unitOf(long number, int f) {
            return Figures.longTenTo(Figures.sizeOf(number) - f);
        }

        private static long fromRoot(long number, int power, int f) {
            return cutRoot(leastWithFirsts(number, f) - 1L, power) + 1L;
        }

        private static long toRoot(long number, int power, int f) {
            return cutRoot(leastWithFirsts(number, f) + unitOf(number, f) - 1L, power);
        }

        private static boolean endsAlike(long r, int power, long number) {
            return raised(r % 10L, power) % 10L == number % 10L;
        }

        /** Last figures come again by tens: ten roots tell of all. */
        static long howMany(long number, int power, int f) {
            long from = fromRoot(number, power, f);
            long to = toRoot(number, power, f);
            long many = 0L;
            for (long r = from; r < from + 10L && r <= to; r++) {
                if (endsAlike(r, power, number)) {
                    many += (to - r) / 10L + 1L;
                }
            }
            return many;
        }

        /** 0: none. */
        static long least(long number, int power, int f) {
            long from = fromRoot(number, power, f);
            long to = toRoot(number, power, f);
            for (long r = from; r < from + 10L && r <= to; r++) {
                if (endsAlike(r, power, number)) {
                    return r;
                }
            }
            return 0L;
        }
    }
}
