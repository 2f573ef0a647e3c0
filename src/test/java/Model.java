import java.math.BigInteger;
import java.util.ArrayList;
import java.util.List;
import java.util.TreeMap;

/**
 * The document once more, told another way: texts cut into parts, numbers as strings of digits,
 * real classes for kinds, real rows on shelves. ModelTest sets it beside the program.
 */
final class Model {
    static final int BAD = -1, NOT = -2, FULL = -3, STATE = -5, VOID = -2000000000;

    /** The model's own refusals; they never leave it. */
    static final class Refusal extends RuntimeException {
        private static final long serialVersionUID = 1L;
        final int code;

        Refusal(int code) {
            super("", null, false, false);
            this.code = code;
        }
    }

    static void refuseIf(boolean when, int code) {
        if (when) {
            throw new Refusal(code);
        }
    }

    static final class Mind {
        int[] numbers;
        TreeMap<String, Integer> asked = new TreeMap<>();

        Mind(int[] numbers) {
            this.numbers = numbers.clone();
        }

        Mind copy() {
            Mind copy = new Mind(numbers);
            copy.asked.putAll(asked);
            return copy;
        }

        static String name(int a, int b) {
            return Math.min(a, b) + "x" + Math.max(a, b);
        }

        int ask(int a, int b) {
            String name = name(a, b);
            if (a > 99 || b > 99 || (!asked.containsKey(name) && asked.size() == 60)) {
                return 0;
            }
            return asked.merge(name, 1, Integer::sum);
        }

        int learnt() {
            return (int) asked.values().stream().filter(n -> n >= 3).count();
        }

        boolean looksUp(int a, int b) {
            return Math.max(a, b) <= numbers[3] || asked.getOrDefault(name(a, b), 0) >= 3;
        }
    }

    record Act(int sort, long made, int length, int held, long unit) {
        boolean canSlipBy(long off) {
            if (sort == 0) {
                return Math.abs(off) == unit;
            }
            if (sort == 1 && off < 0) {
                String digits = String.valueOf(-off);
                String one = String.valueOf(unit);
                return digits.matches(one + "0*") && digits.length() - one.length() < size(made);
            }
            return false;
        }
    }

    static int size(long number) {
        return String.valueOf(number).length();
    }

    /** The acts of one way, as a person would write them down. */
    static final class Paper {
        final Mind mind;
        final List<Act> acts = new ArrayList<>();
        final List<Long> held = new ArrayList<>();
        Long running;

        Paper(Mind mind) {
            this.mind = mind;
        }

        void note(int sort, long made, int length, long unit) {
            int digits = 0;
            for (long thing : held) {
                digits += size(thing);
            }
            if (running != null && running != 0) {
                digits += size(running);
            }
            acts.add(new Act(sort, made, length, digits, unit));
        }

        void look(long product, long slips) {
            note(0, product, mind.numbers[0], slips);
        }

        void add(long sum, long unit) {
            running = sum;
            note(1, sum, mind.numbers[1] * size(sum), unit);
        }

        void hold() {
            long thing = running;
            running = null;
            held.add(thing);
            note(2, thing, mind.numbers[2] * size(thing), 0);
        }

        long left(long a, long b) {
            String as = String.valueOf(a);
            String bs = String.valueOf(b);
            running = null;
            for (int i = 0; i < as.length(); i++) {
                for (int j = 0; j < bs.length(); j++) {
                    int x = as.charAt(i) - '0';
                    int y = bs.charAt(j) - '0';
                    if (x * y == 0) {
                        continue;
                    }
                    String noughts = "0".repeat(as.length() + bs.length() - i - j - 2);
                    long product = Long.parseLong(x * y + noughts);
                    boolean firstLook = running == null;
                    if (firstLook) {
                        running = product;
                    }
                    look(product, Long.parseLong(Math.min(x, y) + noughts));
                    if (!firstLook) {
                        add(running + product, 1);
                    }
                }
            }
            return running;
        }

        void right(long a, long b) {
            List<Long> rows = new ArrayList<>();
            String bs = new StringBuilder(String.valueOf(b)).reverse().toString();
            for (int place = 0; place < bs.length(); place++) {
                if (bs.charAt(place) != '0') {
                    rows.add(left(a, Long.parseLong(bs.charAt(place) + "0".repeat(place))));
                    hold();
                }
            }
            if (rows.size() > 1) {
                running = held.remove(0);
                while (!held.isEmpty()) {
                    long row = held.remove(0);
                    add(running + row, 1);
                }
            }
        }

        void crossed(long a, long b) {
            String as = new StringBuilder(String.valueOf(a)).reverse().toString();
            String bs = new StringBuilder(String.valueOf(b)).reverse().toString();
            for (int k = 0; k <= as.length() + bs.length() - 2; k++) {
                long unit = BigInteger.TEN.pow(k).longValue();
                for (int i = 0; i < as.length(); i++) {
                    int j = k - i;
                    if (j < 0 || j >= bs.length() || as.charAt(i) == '0' || bs.charAt(j) == '0') {
                        continue;
                    }
                    long x = as.charAt(i) - '0';
                    long y = bs.charAt(j) - '0';
                    boolean veryFirst = running == null;
                    if (veryFirst) {
                        running = x * y;
                    }
                    look(x * y, Math.min(x, y) * unit);
                    if (!veryFirst) {
                        add(running + x * y, unit);
                    }
                }
                long sum = running == null ? 0 : running;
                if (running != null) {
                    running = sum / 10;
                }
                held.add(sum % 10);
                note(2, sum % 10, mind.numbers[2], 0);
            }
        }

        void squared(long a, long b) {
            long s = (a + b) / 2;
            long d = (Math.max(a, b) - Math.min(a, b)) / 2;
            left(s, s);
            hold();
            long lesser = d == 0 ? 0 : left(d, d);
            add(held.remove(0) - lesser, 1);
        }

        boolean split(int a, int b) {
            int p = 0;
            for (int q = 2; q <= b; q++) {
                if (b % q == 0 && b / q >= 2 && b / q <= mind.numbers[3]) {
                    p = Math.max(p, b / q);
                }
            }
            if (p == 0) {
                return false;
            }
            long part = left(a, p);
            hold();
            left(part, b / p);
            return true;
        }

        int seconds() {
            return acts.stream().mapToInt(Act::length).sum();
        }

        int holds() {
            return acts.stream().mapToInt(Act::held).max().orElse(0);
        }
    }

    static Paper paper(Mind mind, int way, int a, int b) {
        Paper paper = new Paper(mind);
        switch (way) {
            case 0 -> {
                if (!mind.looksUp(a, b)) {
                    return null;
                }
                paper.running = (long) a * b;
                paper.look((long) a * b, Math.min(a, b));
            }
            case 1 -> paper.left(a, b);
            case 2 -> paper.right(a, b);
            case 3 -> paper.crossed(a, b);
            case 4 -> {
                if ((a & 1) != (b & 1)) {
                    return null;
                }
                paper.squared(a, b);
            }
            case 5 -> {
                if (!paper.split(a, b)) {
                    return null;
                }
            }
            case 6 -> paper.right(b, a);
            default -> {
                return null;
            }
        }
        return paper;
    }

    String tape = "";
    final List<Mind> minds = new ArrayList<>();
    String choice;
    final List<int[]> seen = new ArrayList<>();
    final List<int[]> list = new ArrayList<>();
    List<int[]> changes = new ArrayList<>();
    int changesDone;

    // ---- heads

    int feed(int n, int v) {
        if (n < 1 || n > 4) {
            return BAD;
        }
        if (tape.length() + n > 120) {
            return FULL;
        }
        for (int i = 0; i < n; i++) {
            tape += (char) (v >> 8 * i & 0xFF);
        }
        return tape.length();
    }

    static final String LETTERS = "lahtc";
    static final int[] LEAST = {0, 0, 0, 9, 1};
    static final int[] MOST = {99, 99, 99, 99, 40};

    int head() {
        refuseIf(minds.size() == 6, FULL);
        int[] numbers = new int[5];
        String rest = tape;
        for (int i = 0; i <= 5; i++) {
            int place = tape.length() - rest.length();
            if (i == 5) {
                if (!rest.isEmpty()) {
                    tape = "";
                    return -100 - place;
                }
                break;
            }
            if (rest.isEmpty() || rest.charAt(0) != LETTERS.charAt(i)) {
                tape = "";
                return -100 - place;
            }
            String digits = rest.substring(1).replaceAll("(?s)^(\\d{0,2}).*$", "$1");
            int value = digits.isEmpty() ? -1 : Integer.parseInt(digits);
            if (value < LEAST[i] || value > MOST[i]) {
                tape = "";
                return -100 - place - 1;
            }
            numbers[i] = value;
            rest = rest.substring(1 + digits.length());
        }
        tape = "";
        minds.add(new Mind(numbers));
        return minds.size() - 1;
    }

    Mind mind(int head, int code) {
        refuseIf(head < 0 || head >= minds.size(), code);
        return minds.get(head);
    }

    int of(int head, int what) {
        Mind mind = mind(head, BAD);
        refuseIf(what < 0 || what > 5, BAD);
        return what == 5 ? mind.learnt() : mind.numbers[what];
    }

    int turn(int head, int what, int v) {
        Mind mind = mind(head, BAD);
        refuseIf(what < 0 || what > 4 || v < LEAST[what] || v > MOST[what], BAD);
        int was = mind.numbers[what];
        if (was != v) {
            changes = new ArrayList<>(changes.subList(0, changesDone));
            changes.add(new int[] {head, what, was, v});
            while (changes.size() > 40) {
                changes.remove(0);
            }
            changesDone = changes.size();
            mind.numbers[what] = v;
        }
        return was;
    }

    int undo() {
        refuseIf(changesDone == 0, STATE);
        int[] change = changes.get(--changesDone);
        minds.get(change[0]).numbers[change[1]] = change[2];
        return changesDone;
    }

    int redo() {
        refuseIf(changesDone == changes.size(), STATE);
        int[] change = changes.get(changesDone++);
        minds.get(change[0]).numbers[change[1]] = change[3];
        return changes.size() - changesDone;
    }

    // ---- the choice: a text is cut at its signs, outermost and last first

    /** What the names stand for; null: the text is only looked at. */
    private TreeMap<Character, Integer> names;

    /** Where in s one of the signs stands outside of brackets and behind an operand: the last such place. */
    private static int lastCut(String s, String signs) {
        int depth = 0;
        for (int i = s.length() - 1; i >= 0; i--) {
            char sign = s.charAt(i);
            depth += sign == ')' ? 1 : sign == '(' ? -1 : 0;
            boolean behindOperand = i > 0 && (Character.isLetterOrDigit(s.charAt(i - 1)) || s.charAt(i - 1) == ')');
            if (depth == 0 && signs.indexOf(sign) >= 0 && (sign != '-' || behindOperand)) {
                return i;
            }
        }
        return -1;
    }

    /** The value of a part, or null, if it is none. Level 0 |, 1 &, 2 < = >, 3 + -, 4 * / %. */
    private Integer part(String s, int level, int open) {
        if (level == 5) {
            return operand(s, open);
        }
        int cut = lastCut(s, new String[] {"|", "&", "<=>", "+-", "*/%"}[level]);
        if (cut < 0) {
            return part(s, level + 1, open);
        }
        Integer left = part(s.substring(0, cut), level == 2 ? 3 : level, open);
        Integer right = part(s.substring(cut + 1), level + 1, open);
        if (left == null || right == null) {
            return null;
        }
        int p = left;
        int q = right;
        return switch (s.charAt(cut)) {
            case '|' -> (p != 0) | (q != 0) ? 1 : 0;
            case '&' -> (p != 0) & (q != 0) ? 1 : 0;
            case '<' -> p < q ? 1 : 0;
            case '=' -> p == q ? 1 : 0;
            case '>' -> p > q ? 1 : 0;
            case '+' -> p + q;
            case '-' -> p - q;
            case '*' -> p * q;
            case '/' -> q == 0 ? 0 : p / q;
            default -> q == 0 ? 0 : p % q;
        };
    }

    private Integer operand(String s, int open) {
        if (s.matches("[0-9]{1,4}")) {
            return Integer.parseInt(s);
        }
        if (s.matches("[mnxydztc]")) {
            return names == null ? Integer.valueOf(1) : names.get(s.charAt(0));
        }
        if (s.isEmpty() || open == 6) {
            return null;
        }
        if (s.charAt(0) == '(') {
            return s.endsWith(")") ? part(s.substring(1, s.length() - 1), 0, open + 1) : null;
        }
        if (s.charAt(0) != '!' && s.charAt(0) != '-') {
            return null;
        }
        Integer value = operand(s.substring(1), open + 1);
        return value == null ? null : s.charAt(0) == '-' ? -value : value == 0 ? 1 : 0;
    }

    boolean isText(String text) {
        names = null;
        for (String line : text.split(";", -1)) {
            for (String side : line.split("\\?", -1)) {
                if (line.split("\\?", -1).length > 2 || part(side, 0, 0) == null) {
                    return false;
                }
            }
        }
        return true;
    }

    /** Some text goes on with this: it is one, or is one behind an operand and brackets closed. */
    boolean goesOn(String begun) {
        for (int brackets = 0; brackets <= 6; brackets++) {
            if (isText(begun + ")".repeat(brackets)) || isText(begun + "1" + ")".repeat(brackets))) {
                return true;
            }
        }
        return false;
    }

    int choice() {
        String text = tape;
        tape = "";
        if (isText(text)) {
            choice = text;
            return 1;
        }
        for (int length = 1; length <= text.length(); length++) {
            if (!goesOn(text.substring(0, length))) {
                return -100 - (length - 1);
            }
        }
        return -100 - text.length();
    }

    int chosenWay(Mind mind, int a, int b) {
        int number = choice == null ? 1 : choiceFor(mind, a, b);
        return number >= 0 && number <= 6 && paper(mind, number, a, b) != null ? number : 1;
    }

    private int choiceFor(Mind mind, int a, int b) {
        names = new TreeMap<>();
        names.put('m', size(a));
        names.put('n', size(b));
        names.put('x', a % 10);
        names.put('y', b % 10);
        names.put('d', Math.max(a, b) - Math.min(a, b));
        names.put('z', (a + "" + b).replaceAll("[^0]", "").length());
        names.put('t', mind.numbers[3]);
        names.put('c', mind.numbers[4]);
        for (String line : choice.split(";")) {
            String[] sides = line.split("\\?");
            if (sides.length == 1 || part(sides[0], 0, 0) != 0) {
                return part(sides[sides.length - 1], 0, 0);
            }
        }
        return 0;
    }

    Paper chosenPaper(Mind mind, int a, int b) {
        return paper(mind, chosenWay(mind, a, b), a, b);
    }

    // ---- ways

    static int[] pair(int ab, int code) {
        int a = Math.floorDiv(ab, 10000);
        int b = Math.floorMod(ab, 10000);
        refuseIf(a < 1 || a > 9999 || b < 1, code);
        return new int[] {a, b};
    }

    Mind ofWay(int hw, int code) {
        refuseIf(hw < 0 || hw % 10 > 6, code);
        return mind(hw / 10, code);
    }

    int way(int hw, int ab, int what) {
        Mind mind = ofWay(hw, BAD);
        int[] pair = pair(ab, BAD);
        refuseIf(what < 0 || what > 2, BAD);
        Paper paper = paper(mind, hw % 10, pair[0], pair[1]);
        refuseIf(paper == null, NOT);
        return what == 0 ? paper.seconds() : what == 1 ? paper.holds() : paper.acts.size();
    }

    int step(int hw, int ab, int i, int what) {
        Mind mind = ofWay(hw, VOID);
        int[] pair = pair(ab, VOID);
        Paper paper = paper(mind, hw % 10, pair[0], pair[1]);
        refuseIf(paper == null || i < 0 || i >= paper.acts.size(), VOID);
        Act act = paper.acts.get(i);
        return switch (what) {
            case 0 -> act.sort;
            case 1 -> (int) act.made;
            case 2 -> act.length;
            case 3 -> act.held;
            default -> VOID;
        };
    }

    int chosen(int head, int ab) {
        Mind mind = mind(head, BAD);
        int[] pair = pair(ab, BAD);
        return chosenWay(mind, pair[0], pair[1]);
    }

    int answer(int hw, int ab, int seed) {
        Mind mind = ofWay(hw, VOID);
        int[] pair = pair(ab, VOID);
        Paper paper = paper(mind, hw % 10, pair[0], pair[1]);
        refuseIf(paper == null, VOID);
        long sum = (long) pair[0] * pair[1];
        int z = seed;
        for (Act act : paper.acts) {
            int o = act.held - mind.numbers[4];
            if (o < 1) {
                continue;
            }
            z = (int) (z * 1103515245L + 12345L);
            int percent = o > 19 ? 95 : 5 * o;
            if ((z >>> 8) % 100 >= percent) {
                continue;
            }
            if (act.sort == 0) {
                sum += (z >>> 20) % 2 == 1 ? act.unit : -act.unit;
            } else if (act.sort == 1) {
                sum -= act.unit * BigInteger.TEN.pow((z >>> 20) % size(act.made)).longValue();
            }
        }
        return (int) sum;
    }

    int quickest(int head, int ab, int digits) {
        Mind mind = mind(head, BAD);
        int[] pair = pair(ab, BAD);
        refuseIf(digits < 1 || digits > 99, BAD);
        int best = NOT;
        int least = Integer.MAX_VALUE;
        for (int way = 0; way <= 6; way++) {
            Paper paper = paper(mind, way, pair[0], pair[1]);
            if (paper != null && paper.holds() <= digits && paper.seconds() < least) {
                best = way;
                least = paper.seconds();
            }
        }
        return best;
    }

    int table(int head, int ab, int tenths) {
        Mind mind = mind(head, BAD).copy();
        int[] pair = pair(ab, BAD);
        for (int table = 9; table <= 99; table++) {
            mind.numbers[3] = table;
            if (chosenPaper(mind, pair[0], pair[1]).seconds() <= tenths) {
                return table;
            }
        }
        return NOT;
    }

    // ---- what is seen

    static boolean isAsk(long a, long b, long tenths, long answer) {
        return a >= 1 && a <= 9999 && b >= 1 && b <= 9999 && tenths >= 0 && tenths <= 9999
                && Math.abs(answer) <= 999999999;
    }

    int see(int ab, int tenths, int answer) {
        int[] pair = pair(ab, BAD);
        refuseIf(!isAsk(pair[0], pair[1], tenths, answer), BAD);
        refuseIf(seen.size() == 40, FULL);
        seen.add(new int[] {pair[0], pair[1], tenths, answer});
        return seen.size() - 1;
    }

    int seen(int ask, int what) {
        refuseIf(ask < 0 || ask >= seen.size() || what < 0 || what > 3, VOID);
        int[] it = seen.get(ask);
        return what == 3 ? it[3] - it[0] * it[1] : it[what];
    }

    static long howMany(Paper paper, long off) {
        return paper.acts.stream().filter(act -> act.canSlipBy(off)).count();
    }

    int fits(int head, int x) {
        Mind mind = mind(head, BAD);
        refuseIf(x < 0 || x > 9999, BAD);
        refuseIf(seen.isEmpty(), STATE);
        int bits = 0;
        for (int way = 0; way <= 6; way++) {
            boolean all = true;
            for (int[] it : seen) {
                Paper paper = paper(mind, way, it[0], it[1]);
                int off = it[3] - it[0] * it[1];
                all = all && paper != null && Math.abs(paper.seconds() - it[2]) <= x
                        && (off == 0 || howMany(paper, off) > 0);
            }
            bits += all ? 1 << way : 0;
        }
        return bits;
    }

    int best(int head, int what) {
        Mind mind = mind(head, BAD);
        refuseIf(what < 0 || what > 1, BAD);
        refuseIf(seen.isEmpty(), STATE);
        int best = -1;
        long least = Long.MAX_VALUE;
        for (int way = 0; way <= 7; way++) {
            long sum = 0;
            for (int[] it : seen) {
                Paper paper = way == 7 ? chosenPaper(mind, it[0], it[1]) : paper(mind, way, it[0], it[1]);
                sum = paper == null || sum < 0 ? -1 : sum + Math.abs(paper.seconds() - it[2]);
            }
            if (sum >= 0 && sum < least) {
                best = way;
                least = sum;
            }
        }
        return what == 0 ? best : (int) least;
    }

    int slip(int hw, int ask, int what) {
        Mind mind = ofWay(hw, BAD);
        refuseIf(ask < 0 || ask >= seen.size() || what < 0 || what > 1, BAD);
        int[] it = seen.get(ask);
        int off = it[3] - it[0] * it[1];
        refuseIf(off == 0, BAD);
        Paper paper = paper(mind, hw % 10, it[0], it[1]);
        refuseIf(paper == null, NOT);
        if (what == 1) {
            return (int) howMany(paper, off);
        }
        for (Act act : paper.acts) {
            if (act.canSlipBy(off)) {
                return paper.acts.indexOf(act);
            }
        }
        return NOT;
    }

    int suits(int head) {
        Mind mind = mind(head, BAD);
        refuseIf(seen.isEmpty(), STATE);
        int many = 0;
        for (int[] it : seen) {
            int left = paper(mind, 1, it[0], it[1]).seconds();
            many += chosenPaper(mind, it[0], it[1]).seconds() <= left / 2 ? 1 : 0;
        }
        return many * 1000 / seen.size();
    }

    // ---- asks told

    int tell(int ab) {
        int[] pair = pair(ab, BAD);
        refuseIf(list.size() == 8, FULL);
        list.add(pair);
        return list.size();
    }

    int untell() {
        int had = list.size();
        list.clear();
        return had;
    }

    int parts(int head, int ways, int what) {
        Mind mind = mind(head, BAD);
        refuseIf(ways < 0 || ways > 127 || what < 0 || what > 1, BAD);
        refuseIf(list.isEmpty(), STATE);
        int ask = NOT;
        int most = -1;
        for (int i = 0; i < list.size(); i++) {
            List<Integer> all = new ArrayList<>();
            for (int way = 0; way <= 6; way++) {
                Paper paper = paper(mind, way, list.get(i)[0], list.get(i)[1]);
                if ((ways & 1 << way) != 0 && paper != null) {
                    all.add(paper.seconds());
                }
            }
            all.sort(null);
            if (!all.isEmpty() && all.get(all.size() - 1) - all.get(0) > most) {
                ask = i;
                most = all.get(all.size() - 1) - all.get(0);
            }
        }
        refuseIf(ask == NOT, NOT);
        return what == 0 ? ask : most;
    }

    int ask(int head, int ab) {
        Mind mind = mind(head, BAD);
        int[] pair = pair(ab, BAD);
        return mind.ask(pair[0], pair[1]);
    }

    private int teach(Mind mind, int i) {
        int[] pair = list.get(i);
        int seconds = chosenPaper(mind, pair[0], pair[1]).seconds();
        mind.ask(pair[0], pair[1]);
        return seconds;
    }

    private void refuseList() {
        for (int[] pair : list) {
            refuseIf(pair[0] > 99 || pair[1] > 99, BAD);
        }
        refuseIf(list.isEmpty(), STATE);
    }

    int taught(int head, int n, int what) {
        Mind mind = mind(head, BAD).copy();
        refuseIf(n < 1 || n > 50 || what < 0 || what > 1, BAD);
        refuseList();
        int seconds = 0;
        for (int i = 0; i < n; i++) {
            seconds += teach(mind, i % list.size());
        }
        return what == 0 ? seconds : mind.learnt();
    }

    int first(int head, int what) {
        Mind mind = mind(head, BAD);
        refuseIf(what < 0 || what > 1, BAD);
        refuseList();
        int size = Math.min(5, list.size());
        int digits = 0;
        int least = Integer.MAX_VALUE;
        for (int order = 1; order <= 54321; order++) {
            String places = String.valueOf(order);
            if (places.length() != size || places.chars().distinct().count() != size
                    || places.chars().anyMatch(p -> p < '1' || p > '0' + size)) {
                continue;
            }
            Mind thought = mind.copy();
            int seconds = 0;
            for (int i = 0; i < 3 * size; i++) {
                seconds += teach(thought, places.charAt(i / 3) - '1');
            }
            if (seconds < least) {
                digits = order;
                least = seconds;
            }
        }
        return what == 0 ? digits : least;
    }

    // ---- roots

    static BigInteger floorRoot(BigInteger number, int power) {
        BigInteger low = BigInteger.ZERO;
        for (int bit = 40; bit >= 0; bit--) {
            BigInteger more = low.setBit(bit);
            if (more.pow(power).compareTo(number) <= 0) {
                low = more;
            }
        }
        return low;
    }

    static void refuseRoot(long number, int power) {
        refuseIf(number < 1 || number > 999999999999999999L || (power != 2 && power != 3 && power != 5), BAD);
    }

    int root(long number, int power) {
        refuseRoot(number, power);
        BigInteger root = floorRoot(BigInteger.valueOf(number), power);
        return root.pow(power).longValueExact() == number ? root.intValueExact() : 0;
    }

    int firsts(long number, int pf, int what) {
        refuseRoot(number, pf / 100);
        String digits = String.valueOf(number);
        int f = pf % 100;
        refuseIf(f < 1 || f > digits.length() || what < 0 || what > 1, BAD);
        String begin = digits.substring(0, f);
        BigInteger least = new BigInteger(begin + "0".repeat(digits.length() - f));
        BigInteger most = new BigInteger(begin + "9".repeat(digits.length() - f));
        BigInteger from = floorRoot(least.subtract(BigInteger.ONE), pf / 100).add(BigInteger.ONE);
        BigInteger to = floorRoot(most, pf / 100);
        long many = 0;
        long first = 0;
        for (int last = 9; last >= 0; last--) {
            BigInteger r = from.add(BigInteger.valueOf(last));
            String power = r.pow(pf / 100).toString();
            if (r.compareTo(to) <= 0 && power.charAt(power.length() - 1) == digits.charAt(digits.length() - 1)) {
                many += to.subtract(r).divide(BigInteger.TEN).longValueExact() + 1;
                first = r.longValueExact();
            }
        }
        return (int) (what == 0 ? many : first);
    }

    int enough(long number, int power) {
        refuseIf(root(number, power) == 0, NOT);
        for (int f = 1;; f++) {
            if (firsts(number, 100 * power + f, 0) == 1) {
                return f;
            }
        }
    }

    // ---- bodies

    final List<Way> bodies = new ArrayList<>();
    final List<Integer> trace = new ArrayList<>();

    interface Costs {
        Model model();

        int n();

        default int costs(int x) {
            model().trace.add(1);
            return x + n();
        }
    }

    interface Tells {
        Model model();

        int keeps(int x);

        int slips(int x);

        default int tells(int x) {
            model().trace.add(2);
            return keeps(x) - slips(1);
        }
    }

    static class Way implements Costs, Tells {
        Model model;
        int n;
        int kind;

        public Model model() {
            return model;
        }

        public int n() {
            return n;
        }

        public int keeps(int x) {
            model.trace.add(10);
            return costs(x) * 2;
        }

        public int slips(int x) {
            model.trace.add(11);
            return x ^ n;
        }
    }

    static class Left extends Way {
        public int costs(int x) {
            model.trace.add(20);
            return super.costs(x) + 3;
        }
    }

    static class Right extends Way {
        public int keeps(int x) {
            model.trace.add(30);
            return -super.keeps(x);
        }
    }

    static class Crossed extends Right {
        public int slips(int x) {
            model.trace.add(40);
            return super.slips(x) * 3;
        }
    }

    static class Squared extends Way {
        public int tells(int x) {
            model.trace.add(50);
            return super.tells(x) ^ 5;
        }
    }

    static class Split extends Left {
        public int costs(int x) {
            model.trace.add(60);
            return super.costs(x + 1);
        }

        public int slips(int x) {
            model.trace.add(61);
            return super.slips(x) + costs(2);
        }
    }

    static class Known extends Way {
        public int slips(int x) {
            model.trace.add(70);
            return super.slips(x) - 1;
        }
    }

    static class Rooted extends Known {
        public int keeps(int x) {
            model.trace.add(80);
            return super.keeps(x) * 2;
        }

        public int tells(int x) {
            model.trace.add(81);
            return super.tells(x) - slips(2);
        }
    }

    static final List<Class<?>> KINDS = List.of(Way.class, Left.class, Right.class, Crossed.class,
            Squared.class, Split.class, Known.class, Rooted.class);

    int body(int kind) {
        refuseIf(kind < 0 || kind > 7, BAD);
        refuseIf(bodies.size() == 50, FULL);
        Way way = switch (kind) {
            case 0 -> new Way();
            case 1 -> new Left();
            case 2 -> new Right();
            case 3 -> new Crossed();
            case 4 -> new Squared();
            case 5 -> new Split();
            case 6 -> new Known();
            default -> new Rooted();
        };
        way.model = this;
        way.n = bodies.size();
        way.kind = kind;
        bodies.add(way);
        return way.n;
    }

    int act(int body, int act, int x) {
        trace.clear();
        refuseIf(body < 0 || body >= bodies.size(), 0);
        Way way = bodies.get(body);
        return switch (act) {
            case 0 -> way.costs(x);
            case 1 -> way.keeps(x);
            case 2 -> way.slips(x);
            case 3 -> way.tells(x);
            default -> 0;
        };
    }

    int trace(int i) {
        refuseIf(i < 0 || i >= Math.min(24, trace.size()), BAD);
        return trace.get(i);
    }

    // ---- shelves

    final Object[] shelves = new Object[6];

    static void refuseShelf(int shelf) {
        refuseIf(shelf < 0 || shelf > 5, BAD);
    }

    int keep(int shelf, int body) {
        refuseShelf(shelf);
        refuseIf(body < -1 || body >= bodies.size(), BAD);
        shelves[shelf] = body == -1 ? null : bodies.get(body);
        return 1;
    }

    int row(int shelf, int sort, int n) {
        refuseShelf(shelf);
        refuseIf(sort < 0 || sort > 4 || n > 60, BAD);
        refuseIf(n < 0, -14);
        shelves[shelf] = switch (sort) {
            case 0 -> new byte[n];
            case 1 -> new short[n];
            case 2 -> new int[n];
            case 3 -> new long[n];
            default -> new boolean[n];
        };
        return 1;
    }

    private Object rowAt(int shelf) {
        refuseShelf(shelf);
        refuseIf(shelves[shelf] == null, -11);
        refuseIf(shelves[shelf] instanceof Way, -12);
        return shelves[shelf];
    }

    int put(int shelf, int i, long v) {
        Object row = rowAt(shelf);
        refuseIf(i < 0 || i >= java.lang.reflect.Array.getLength(row), -13);
        if (row instanceof byte[] r) {
            r[i] = (byte) v;
        } else if (row instanceof short[] r) {
            r[i] = (short) v;
        } else if (row instanceof int[] r) {
            r[i] = (int) v;
        } else if (row instanceof long[] r) {
            r[i] = v;
        } else if (row instanceof boolean[] r) {
            r[i] = v != 0;
        }
        return 1;
    }

    long element(int shelf, int i) {
        try {
            Object row = rowAt(shelf);
            refuseIf(i < 0 || i >= java.lang.reflect.Array.getLength(row), -13);
            return row instanceof boolean[] r ? (r[i] ? 1 : 0) : java.lang.reflect.Array.getLong(row, i);
        } catch (Refusal refusal) {
            return Long.MIN_VALUE;
        }
    }

    int shift(int shelf, int i, int other, int j, int n) {
        refuseShelf(shelf);
        refuseShelf(other);
        refuseIf(shelves[shelf] == null || shelves[other] == null, -11);
        try {
            System.arraycopy(shelves[shelf], i, shelves[other], j, n);
        } catch (ArrayStoreException refused) {
            return -12;
        } catch (IndexOutOfBoundsException refused) {
            return -13;
        }
        return n;
    }

    int taken(int shelf, int k) {
        refuseShelf(shelf);
        refuseIf(k < 0 || k > 7, BAD);
        refuseIf(shelves[shelf] == null, -11);
        refuseIf(!KINDS.get(k).isInstance(shelves[shelf]), -12);
        return ((Way) shelves[shelf]).kind;
    }

    int asks(int shelf, int i, int n) {
        refuseShelf(shelf);
        refuseIf(n < 1 || n > 15, BAD);
        if (shelves[shelf] == null) {
            return 0;
        }
        refuseIf(!(shelves[shelf] instanceof int[]), -12);
        int[] row = (int[]) shelves[shelf];
        int came = 0;
        for (long at = i; came < n && at >= 0 && at + 4 <= row.length; at += 4) {
            int[] it = java.util.Arrays.copyOfRange(row, (int) at, (int) at + 4);
            if (!isAsk(it[0], it[1], it[2], it[3]) || seen.size() == 40) {
                return came;
            }
            seen.add(it);
            came++;
        }
        return came;
    }

    int count(int what) {
        return switch (what) {
            case 0 -> minds.size();
            case 1 -> seen.size();
            case 2 -> tape.length();
            case 3 -> list.size();
            case 4 -> changesDone;
            case 5 -> bodies.size();
            case 6 -> trace.size();
            default -> BAD;
        };
    }
}
