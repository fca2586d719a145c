import java.util.ArrayDeque;
import java.util.ArrayList;
import java.util.Arrays;
import java.util.BitSet;
import java.util.Deque;
import java.util.List;

/**
 * The document once more, told another way than in WornWeights: by brute force, with the Java
 * library, and TEXTS as words that are split at their loosest sign each time they're asked.
 * StormTest lets both answer the same calls.
 */
final class Model {
    private static final int BAD = Due.BAD, NO = Due.NO, FULL = Due.FULL, NONE = Due.NONE, NOTHING = Due.NOTHING,
        KIND = Due.KIND, INDEX = Due.INDEX, SIZE = Due.SIZE;
    private static final List<String> KEYS = List.of("wear", "law", "fine");
    private static final List<String> NAMES = List.of("gts", "sd", "lt");
    private static final int[][] UP = {{0}, {1, 0}, {2, 0}, {3, 1, 0}, {4, 2, 0}, {5, 0}};

    private record Weight(int kind, int stamp, int grains, int times) {
        Weight grains(int v) {
            return new Weight(kind, stamp, v, times);
        }

        boolean under(int asked) {
            return Arrays.stream(UP[kind]).anyMatch(k -> k == asked);
        }

        int worth() {
            return switch (kind) {
                case 1 -> grains - 2;
                case 3 -> grains - 2 - times;
                case 2 -> grains + grains;
                case 4 -> grains + grains + 100;
                case 5 -> 7;
                default -> grains;
            };
        }
    }

    private record Page(int left, int right, int leftArm, int rightArm, int says) { }

    private record Text(int key, List<String> words) { }

    private static final class State {
        List<Weight> weights = new ArrayList<>();
        int[][] arms = {{100, 100}, {100, 100}, {100, 100}, {100, 100}};
        List<Page> book = new ArrayList<>();
        List<Text> texts = new ArrayList<>();
        int shot;
        int day;
        int z = 1;

        State copied() {
            State s = new State();
            s.weights = new ArrayList<>(weights);
            s.arms = Arrays.stream(arms).map(int[]::clone).toArray(int[][]::new);
            s.book = new ArrayList<>(book);
            s.texts = new ArrayList<>(texts);
            s.shot = shot;
            s.day = day;
            s.z = z;
            return s;
        }

        int why(int key) {
            for (int i = texts.size() - 1; i >= 0; i--) {
                if (texts.get(i).key == key) {
                    return i;
                }
            }
            return NONE;
        }

        Integer given(int key, int... values) {
            int i = why(key);
            return i == NONE ? null : value(texts.get(i).words, NAMES.get(key), values);
        }

        int loses(Weight w) {
            Integer text = given(0, w.grains, w.times, w.stamp);
            int plain = text == null ? 1 : clamp(text, 99);
            int loss = switch (w.kind) {
                case 0 -> plain;
                case 1 -> plain + 1;
                case 2 -> plain / 2;
                case 3 -> plain + 1 + plain + 1;
                case 4 -> w.times % 2 != 0 ? 0 : plain / 2;
                default -> 0;
            };
            return Math.min(loss, w.grains);
        }

        int falls(Weight w) {
            return Math.min(w.grains, loses(w) * 10);
        }

        Weight weighed(Weight w) {
            return new Weight(w.kind, w.stamp, w.grains - loses(w), w.times + 1);
        }

        Weight weighed(Weight w, int n) {
            Weight now = w;
            for (int i = 0; i < n; i++) {
                now = weighed(now);
            }
            return now;
        }

        int draw() {
            z = z * 1103515245 + 12345;
            return z >>> 8;
        }

        int shoot(int i, int n) {
            Weight w = weights.get(i);
            int grains = Math.min(999, w.grains + n);
            weights.set(i, w.grains(grains));
            shot = Math.min(99999, shot + grains - w.grains);
            return grains - w.grains;
        }

        int fall(int i) {
            int lost = falls(weights.get(i));
            weights.set(i, weights.get(i).grains(weights.get(i).grains - lost));
            return lost;
        }

        int monday() {
            int sum = 0;
            for (int i = 0; i < weights.size(); i++) {
                Weight w = weights.get(i);
                Integer text = given(1, w.stamp, day);
                int law = text == null ? w.stamp - w.stamp / 10 : clamp(text, 999);
                if (w.grains < law) {
                    sum += shoot(i, law - w.grains);
                }
            }
            return sum;
        }

        int day() {
            int sum = 0;
            for (int i = 0; i < weights.size(); i++) {
                if (draw() % 100 < 5) {
                    fall(i);
                    sum++;
                }
            }
            if (day % 7 == 0) {
                monday();
            }
            day++;
            return sum;
        }

        int grains(int set) {
            int sum = 0;
            for (int i = 0; i < weights.size(); i++) {
                sum += (set & 1 << i) != 0 ? weights.get(i).grains : 0;
            }
            return sum;
        }

        int stamps(int set) {
            int sum = 0;
            for (int i = 0; i < weights.size(); i++) {
                sum += (set & 1 << i) != 0 ? weights.get(i).stamp : 0;
            }
            return sum;
        }

        int says(int left, int right, int leftArm, int rightArm) {
            int way = Integer.compare(grains(left) * leftArm, grains(right) * rightArm);
            return way == 0 ? 0 : way > 0 ? 1 : 2;
        }

        int fit(int without) {
            return (int) book.stream().filter(p -> fits(p, without)).count();
        }

        boolean fits(Page p, int without) {
            return says(p.left & ~without, p.right & ~without, p.leftArm, p.rightArm) == p.says;
        }

        int canWeigh(int set) {
            BitSet sums = new BitSet();
            for (int part = 0; part < 1 << weights.size(); part++) {
                if ((part & ~set) == 0) {
                    sums.set(grains(part));
                }
            }
            return sums.nextClearBit(1) - 1;
        }

        int all() {
            return (1 << weights.size()) - 1;
        }
    }

    private State now = new State();
    private State image;
    private final List<Integer> tape = new ArrayList<>();
    private final List<Integer> waiting = new ArrayList<>();
    private final Object[] sheets = new Object[4];
    private final Object[] slots = new Object[5];

    private static int clamp(int v, int most) {
        return v < 0 ? 0 : v > most ? most : v;
    }

    private boolean no(int i) {
        return i < 0 || i >= now.weights.size();
    }

    private boolean noSet(int set) {
        return set < 0 || set > now.all();
    }

    int weight(int kind, int stamp) {
        if (kind < 0 || kind > 5 || stamp < 1 || stamp > 999) {
            return BAD;
        }
        if (now.weights.size() == 10) {
            return FULL;
        }
        now.weights.add(new Weight(kind, stamp, stamp, 0));
        return now.weights.size() - 1;
    }

    int told(int i, int what) {
        if (no(i) || what < 0 || what > 6) {
            return BAD;
        }
        Weight w = now.weights.get(i);
        return new int[] {w.kind, w.stamp, w.grains, w.times, now.loses(w), now.falls(w), w.worth()}[what];
    }

    int as(int i, int kind) {
        if (no(i) || kind < 0 || kind > 5) {
            return BAD;
        }
        return now.weights.get(i).under(kind) ? now.weights.get(i).grains : KIND;
    }

    int turns(int i, int kind) {
        if (no(i) || kind < 0 || kind > 5) {
            return BAD;
        }
        Weight w = now.weights.get(i);
        now.weights.set(i, new Weight(kind, w.stamp, w.grains, w.times));
        return w.kind;
    }

    int file(int i, int v) {
        if (no(i) || v < 0 || v > 999) {
            return BAD;
        }
        return now.weights.set(i, now.weights.get(i).grains(v)).grains;
    }

    int arm(int balance, int side, int v) {
        if (balance < 0 || balance > 3 || side < 0 || side > 1 || v < 90 || v > 110) {
            return BAD;
        }
        int was = now.arms[balance][side];
        now.arms[balance][side] = v;
        return was;
    }

    int deal(int n) {
        if (n < 1 || n > 10) {
            return BAD;
        }
        int many = Math.min(n, 10 - now.weights.size());
        for (int i = 0; i < many; i++) {
            int kind = now.draw() % 6;
            weight(kind, now.draw() % 400 + 1);
        }
        return many;
    }

    int seed(int v) {
        int was = now.z;
        now.z = v;
        return was;
    }

    int weigh(int balance, int left, int right) {
        int says = said(balance, left, right);
        if (says >= 0) {
            for (int i = 0; i < now.weights.size(); i++) {
                if (((left | right) & 1 << i) != 0) {
                    now.weights.set(i, now.weighed(now.weights.get(i)));
                }
            }
            now.book.add(new Page(left, right, now.arms[balance][0], now.arms[balance][1], says));
            if (now.book.size() > 20) {
                now.book.remove(0);
            }
        }
        return says;
    }

    int said(int balance, int left, int right) {
        if (balance < 0 || balance > 3 || noSet(left) || noSet(right)) {
            return BAD;
        }
        if ((left & right) > 0 || left + right == 0) {
            return NO;
        }
        return now.says(left, right, now.arms[balance][0], now.arms[balance][1]);
    }

    int fall(int i) {
        return no(i) ? BAD : now.fall(i);
    }

    int shoot(int i, int n) {
        return no(i) || n < 1 || n > 999 ? BAD : now.shoot(i, n);
    }

    int monday() {
        return now.monday();
    }

    int days(int n) {
        if (n < 1 || n > 60) {
            return BAD;
        }
        int falls = 0;
        for (int i = Math.min(n, 9999 - now.day); i > 0; i--) {
            falls += now.day();
        }
        return falls;
    }

    int page(int i, int what) {
        if (what < 0 || what > 3) {
            return BAD;
        }
        if (i < 0 || i >= now.book.size()) {
            return NONE;
        }
        Page p = now.book.get(i);
        return new int[] {p.left, p.right, p.says, now.fits(p, 0) ? 1 : 0}[what];
    }

    int behind(int i, int n) {
        return no(i) || n < 0 || n > 500 ? BAD : now.weighed(now.weights.get(i), n).grains;
    }

    int lasts(int i, int g) {
        if (no(i) || g < 1 || g > 999) {
            return BAD;
        }
        int n = 0;
        for (Weight w = now.weights.get(i); w.grains >= g && n < 999; w = now.weighed(w)) {
            n++;
        }
        return n;
    }

    int canWeigh(int set) {
        return noSet(set) ? BAD : now.canWeigh(set);
    }

    int smallest(int n) {
        if (n < 1 || n > 999) {
            return BAD;
        }
        int best = NONE;
        for (int many = 1; many <= 10 && best == NONE; many++) {
            for (int set = 1; set <= now.all() && best == NONE; set++) {
                // A set with fewer grains than n can't weigh it; that spares the brute force.
                if (Integer.bitCount(set) == many && now.grains(set) >= n && now.canWeigh(set) >= n) {
                    best = set;
                }
            }
        }
        return best;
    }

    int gain(int g, int what) {
        if (g < 1 || g > 9990 || what < 0 || what > 1) {
            return BAD;
        }
        int best = NONE;
        for (int set = now.all(); set > 0; set--) {
            if (now.stamps(set) == g && (best == NONE || now.grains(set) <= now.grains(best))) {
                best = set;
            }
        }
        return best == NONE ? NONE : what == 1 ? best : g - now.grains(best);
    }

    int pound(int part) {
        if (part < 0 || part > 1) {
            return BAD;
        }
        int above = now.grains(now.all());
        int below = now.weights.isEmpty() ? 1 : now.stamps(now.all());
        for (int d = below; d > 1; d--) {
            if (above % d == 0 && below % d == 0) {
                above /= d;
                below /= d;
            }
        }
        return part == 0 ? above : below;
    }

    int falseOne() {
        int best = NONE;
        for (int i = now.weights.size() - 1; i >= 0; i--) {
            if (now.fit(1 << i) > now.fit(0) && (best == NONE || now.fit(1 << i) >= now.fit(1 << best))) {
                best = i;
            }
        }
        return best;
    }

    int fine(int i) {
        if (no(i)) {
            return BAD;
        }
        Weight w = now.weights.get(i);
        Integer text = now.given(2, w.stamp - w.grains, w.times);
        return text != null ? text : clamp(w.stamp - w.grains, 999);
    }

    int feed(int a, int b, int c) {
        if (tape.size() + 12 > 96) {
            return FULL;
        }
        for (int v : new int[] {a, b, c}) {
            tape.addAll(List.of(v >>> 24, v >>> 16 & 255, v >>> 8 & 255, v & 255));
        }
        return tape.size();
    }

    int trim(int n) {
        if (n < 0 || n > tape.size()) {
            return BAD;
        }
        tape.subList(n, tape.size()).clear();
        return n;
    }

    /** A word or sign with the place of its first byte, and whether a word stands right ahead of it. */
    private record Token(String word, int place, boolean unparted) {
        boolean isNumber() {
            return Character.isDigit(word.charAt(0));
        }

        boolean isLetters() {
            return word.charAt(0) >= 'a' && word.charAt(0) <= 'z';
        }
    }

    private static int sort(int b) {
        return b >= 'a' && b <= 'z' ? 1 : b >= '0' && b <= '9' ? 2 : b == ' ' ? 3 : 0;
    }

    private List<Token> tokens() {
        List<Token> tokens = new ArrayList<>();
        int place = 0;
        int ahead = 3;
        while (place < tape.size()) {
            int sort = sort(tape.get(place));
            int from = place;
            StringBuilder word = new StringBuilder();
            do {
                word.append((char) tape.get(place).intValue());
                place++;
            } while (sort != 0 && place < tape.size() && sort(tape.get(place)) == sort);
            if (sort != 3) {
                boolean isWord = sort == 1 || sort == 2;
                tokens.add(new Token(word.toString(), from, isWord && (ahead == 1 || ahead == 2)));
            }
            ahead = sort;
        }
        return tokens;
    }

    /** One bracket that is open: how many ! stand open outside it, and whether a test sign has come in it. */
    private static final class Frame {
        int notsOutside;
        boolean tested;
    }

    /** The place of the FAULT; -1 if there is none. */
    private static int fault(List<Token> tokens, int end) {
        if (tokens.isEmpty()) {
            return end;
        }
        int key = KEYS.indexOf(tokens.get(0).word);
        if (key < 0) {
            return tokens.get(0).place;
        }
        Deque<Frame> frames = new ArrayDeque<>();
        frames.push(new Frame());
        int nots = 0;
        boolean wants = true;
        for (Token token : tokens.subList(1, tokens.size())) {
            String w = token.word;
            boolean goesOn;
            if (token.unparted) {
                goesOn = false;
            } else if (wants && w.equals("!")) {
                goesOn = nots < 8;
                nots++;
            } else if (wants && w.equals("(")) {
                goesOn = frames.size() <= 8;
                Frame frame = new Frame();
                frame.notsOutside = nots;
                frames.push(frame);
            } else if (wants) {
                goesOn = token.isNumber() ? w.length() <= 4 : token.isLetters() && w.length() == 1 && NAMES.get(key).contains(w);
                wants = false;
                nots = frames.peek().notsOutside;
            } else if (w.equals(")")) {
                goesOn = frames.size() > 1;
                frames.pop();
                nots = frames.isEmpty() ? 0 : frames.peek().notsOutside;
            } else {
                boolean test = "<=>".contains(w);
                goesOn = "+-*/|&".contains(w) || test && !frames.peek().tested;
                frames.peek().tested = test || !"|&".contains(w) && frames.peek().tested;
                wants = true;
            }
            if (!goesOn) {
                return token.place;
            }
        }
        return wants || frames.size() > 1 ? end : -1;
    }

    /** The value of the words of an E, split at the last of its loosest signs. */
    private static int value(List<String> words, String names, int[] values) {
        for (String level : List.of("|", "&", "<=>", "+-", "*/")) {
            int open = 0;
            for (int i = words.size() - 1; i > 0; i--) {
                String w = words.get(i);
                open += w.equals(")") ? 1 : w.equals("(") ? -1 : 0;
                if (open == 0 && level.contains(w)) {
                    int left = value(words.subList(0, i), names, values);
                    int right = value(words.subList(i + 1, words.size()), names, values);
                    return joined(left, w, right);
                }
            }
        }
        String first = words.get(0);
        if (first.equals("!")) {
            return value(words.subList(1, words.size()), names, values) == 0 ? 1 : 0;
        }
        if (first.equals("(")) {
            return value(words.subList(1, words.size() - 1), names, values);
        }
        return names.contains(first) ? values[names.indexOf(first)] : Integer.parseInt(first);
    }

    private static int joined(int a, String sign, int b) {
        boolean test = switch (sign) {
            case "|" -> a != 0 | b != 0;
            case "&" -> a != 0 & b != 0;
            case "<" -> a < b;
            case "=" -> a == b;
            case ">" -> a > b;
            default -> false;
        };
        return switch (sign) {
            case "+" -> a + b;
            case "-" -> a - b;
            case "*" -> a * b;
            case "/" -> b == 0 ? 0 : a / b;
            default -> test ? 1 : 0;
        };
    }

    int text() {
        List<Token> tokens = tokens();
        int fault = fault(tokens, tape.size());
        tape.clear();
        if (fault >= 0) {
            return -100 - fault;
        }
        if (now.texts.size() == 14) {
            return FULL;
        }
        List<String> words = tokens.stream().map(Token::word).toList();
        now.texts.add(new Text(KEYS.indexOf(words.get(0)), words.subList(1, words.size())));
        return now.texts.size() - 1;
    }

    int textTold(int i, int what) {
        if (i < 0 || i >= now.texts.size() || what < 0 || what > 1) {
            return BAD;
        }
        Text t = now.texts.get(i);
        return what == 0 ? t.key : (int) t.words.stream().filter(w -> Character.isLetterOrDigit(w.charAt(0))).count();
    }

    int why(int key) {
        return key < 0 || key > 2 ? BAD : now.why(key);
    }

    int sheet(int i, int sort, int n) {
        if (i < 0 || i > 3 || sort < -1 || sort > 1 || sort != -1 && n > 24) {
            return BAD;
        }
        if (sort == -1) {
            sheets[i] = null;
            return 0;
        }
        if (n < 0) {
            return SIZE;
        }
        sheets[i] = sort == 0 ? new short[n] : new float[n];
        return n;
    }

    private static int size(Object sheet) {
        return java.lang.reflect.Array.getLength(sheet);
    }

    /** null: NO NUMBER */
    private static Integer number(Object sheet, int place) {
        if (sheet instanceof short[] shorts) {
            return (int) shorts[place];
        }
        float v = ((float[]) sheet)[place];
        return Float.isNaN(v) ? null : (Integer) (int) v;
    }

    int mark(int i, int place, int v) {
        if (i < 0 || i > 3) {
            return BAD;
        }
        if (sheets[i] == null) {
            return NOTHING;
        }
        if (place < 0 || place >= size(sheets[i])) {
            return INDEX;
        }
        if (sheets[i] instanceof short[] shorts) {
            if (v == NONE) {
                return KIND;
            }
            shorts[place] = (short) v;
            return 1;
        }
        if (v != NONE && Math.abs((long) v) > 99999) {
            return BAD;
        }
        ((float[]) sheets[i])[place] = v == NONE ? Float.NaN : v;
        return 1;
    }

    int pour(int i) {
        if (i < 0 || i > 3) {
            return BAD;
        }
        if (sheets[i] == null) {
            return NOTHING;
        }
        int otherwise = 0;
        for (int k = 0; k < size(sheets[i]) && k < now.weights.size(); k++) {
            Integer v = number(sheets[i], k);
            if (v != null && file(k, clamp(v, 999)) != clamp(v, 999)) {
                otherwise++;
            }
        }
        return otherwise;
    }

    int reads(int i, int weight) {
        if (i < 0 || i > 3 || no(weight)) {
            return BAD;
        }
        if (sheets[i] == null) {
            return NOTHING;
        }
        for (int k = 0; k < size(sheets[i]); k++) {
            Integer v = number(sheets[i], k);
            if (v != null && v != behind(weight, k)) {
                return k;
            }
        }
        return NONE;
    }

    int copy(int from, int place, int to, int at, int many) {
        if (from < 0 || from > 3 || to < 0 || to > 3) {
            return BAD;
        }
        try {
            System.arraycopy(sheets[from], place, sheets[to], at, many);
            return many;
        } catch (NullPointerException missing) {
            return NOTHING;
        } catch (ArrayStoreException otherSort) {
            return KIND;
        } catch (IndexOutOfBoundsException noPlace) {
            return INDEX;
        }
    }

    private static int thing(Object held) {
        return held == null ? 0 : held instanceof Weight ? 1 : held instanceof Integer ? 3 : 2;
    }

    int lay(int slot, int thing, int k) {
        if (slot < 0 || slot > 4 || thing < 0 || thing > 3 || thing == 1 && no(k) || thing == 2 && (k < 0 || k > 3)) {
            return BAD;
        }
        if (thing == 2 && sheets[k] == null) {
            return NOTHING;
        }
        int was = thing(slots[slot]);
        slots[slot] = switch (thing) {
            case 1 -> now.weights.get(k);
            case 2 -> sheets[k] instanceof short[] s ? s.clone() : ((float[]) sheets[k]).clone();
            case 3 -> k;
            default -> null;
        };
        return was;
    }

    int ask(int slot, int kind) {
        if (slot < 0 || slot > 4 || kind < 0 || kind > 5) {
            return BAD;
        }
        if (slots[slot] == null) {
            return NOTHING;
        }
        return slots[slot] instanceof Weight w && w.under(kind) ? w.worth() : KIND;
    }

    int item(int slot, int place) {
        if (slot < 0 || slot > 4) {
            return BAD;
        }
        if (slots[slot] == null) {
            return NOTHING;
        }
        if (thing(slots[slot]) != 2) {
            return KIND;
        }
        if (place < 0 || place >= size(slots[slot])) {
            return INDEX;
        }
        Integer v = number(slots[slot], place);
        return v == null ? KIND : v;
    }

    int rest(int slot, int n) {
        if (slot < 0 || slot > 4) {
            return BAD;
        }
        if (slots[slot] == null) {
            return NOTHING;
        }
        if (!(slots[slot] instanceof Integer v)) {
            return KIND;
        }
        return n == 0 ? NO : v % n;
    }

    int tell(int v) {
        if (waiting.size() == 60) {
            return FULL;
        }
        waiting.add(v);
        return waiting.size();
    }

    int check(int n) {
        List<Integer> waited = new ArrayList<>(waiting);
        waiting.clear();
        if (n < 1 || n > 30) {
            return BAD;
        }
        if (image == null) {
            return NO;
        }
        List<Integer> told = daysTold(n);
        int same = 0;
        while (same < told.size() && same < waited.size() && told.get(same).equals(waited.get(same))) {
            same++;
        }
        return told.equals(waited) ? 0 : 1 + same;
    }

    /** THE DAYS TOLD, for StormTest too; empty without an image. */
    List<Integer> daysTold(int n) {
        List<Integer> told = new ArrayList<>();
        if (image != null) {
            State s = image.copied();
            for (int i = 0; i < n && s.day < 9999; i++) {
                s.day();
                told.add(s.grains(s.all()));
                told.add(s.shot);
            }
        }
        return told;
    }

    int keep() {
        image = now.copied();
        return now.weights.size();
    }

    int back() {
        if (image == null) {
            return NO;
        }
        now = image.copied();
        return now.weights.size();
    }

    int count(int what) {
        if (what < 0 || what > 9) {
            return BAD;
        }
        return new int[] {now.weights.size(), now.grains(now.all()), now.stamps(now.all()), now.book.size(), now.shot,
            now.day, now.texts.size(), waiting.size(), tape.size(), now.z}[what];
    }
}
