import java.lang.reflect.InvocationTargetException;
import java.lang.reflect.Method;
import java.util.ArrayList;
import java.util.Arrays;
import java.util.Comparator;
import java.util.List;
import java.util.Map;
import java.util.Random;

/**
 * Long runs of calls by lot, on WornWeights and on Model: no call throws, both answer alike, and
 * a call that is refused changes nothing that can be asked for.
 */
public final class StormTest {
    private static final int RUNS = 400;
    private static final int CALLS = 512;
    private static final int[] EDGES = {-1, 0, 1, 2, 3, 4, 5, 6, 9, 10, 11, 13, 14, 19, 20, 24, 25, 30, 31, 59, 60, 61, 89,
        90, 96, 97, 100, 110, 111, 500, 501, 999, 1000, 1023, 1024, 9990, 9991, 32767, 32768, 65535, 99999, 100000,
        -99999, -100000, Due.NONE, Due.BAD, Integer.MAX_VALUE, Integer.MIN_VALUE, Integer.MIN_VALUE + 1, -2, -3};
    /** Calls that would soon fill or empty all if they came as often as the others. */
    private static final List<String> SELDOM = List.of("weight", "deal", "monday", "back", "keep", "trim", "text", "seed",
        "tell", "feed");

    private static final int[] WEIGHT = {}, SET = {}, KIND = {0, 5}, GRAINS = {0, 999}, BALANCE = {0, 1}, SHEET = {0, 1},
        PLACE = {0, 5}, SLOT = {0, 2}, TWO = {0, 1}, ANY = {-70000, 70000};
    /** For each call with numbers: within which most of them are. */
    private static final Map<String, int[][]> RANGES = Map.ofEntries(
        entry("weight", KIND, new int[] {1, 120}), entry("told", WEIGHT, new int[] {0, 6}), entry("as", WEIGHT, KIND),
        entry("turns", WEIGHT, KIND), entry("file", WEIGHT, GRAINS), entry("arm", BALANCE, TWO, new int[] {90, 110}),
        entry("deal", new int[] {1, 4}), entry("seed", ANY), entry("weigh", BALANCE, SET, SET),
        entry("said", BALANCE, SET, SET), entry("fall", WEIGHT), entry("shoot", WEIGHT, GRAINS), entry("monday"),
        entry("days", new int[] {1, 60}), entry("page", new int[] {0, 20}, new int[] {0, 3}),
        entry("behind", WEIGHT, new int[] {0, 500}), entry("lasts", WEIGHT, GRAINS), entry("canWeigh", SET),
        entry("smallest", new int[] {1, 200}), entry("gain", new int[] {1, 300}, TWO), entry("pound", TWO),
        entry("falseOne"), entry("fine", WEIGHT), entry("feed", ANY, ANY, ANY), entry("trim", new int[] {0, 96}),
        entry("text"), entry("textTold", new int[] {0, 9}, TWO), entry("why", new int[] {0, 2}),
        entry("sheet", SHEET, new int[] {-1, 1}, new int[] {0, 24}), entry("mark", SHEET, PLACE, new int[] {-9, 999}),
        entry("pour", SHEET), entry("reads", SHEET, WEIGHT), entry("copy", SHEET, PLACE, SHEET, PLACE, PLACE),
        entry("lay", SLOT, new int[] {0, 3}, SHEET), entry("ask", SLOT, KIND), entry("item", SLOT, PLACE),
        entry("rest", SLOT, new int[] {-9, 9}), entry("tell", ANY), entry("check", new int[] {1, 30}), entry("keep"),
        entry("back"), entry("count", new int[] {0, 9}));

    private final Random lot;
    private final WornWeights x = new WornWeights();
    private final Model model = new Model();
    private int calls;

    private static Map.Entry<String, int[][]> entry(String name, int[]... ranges) {
        return Map.entry(name, ranges);
    }

    private StormTest(int run) {
        lot = new Random(run);
    }

    public static void main(String[] args) throws Exception {
        Method[] face = Arrays.stream(WornWeights.class.getDeclaredMethods())
            .filter(m -> java.lang.reflect.Modifier.isPublic(m.getModifiers()))
            .sorted(Comparator.comparing(Method::getName)).toArray(Method[]::new);
        int calls = 0;
        for (int run = 0; run < RUNS; run++) {
            StormTest storm = new StormTest(run);
            boolean alike = storm.begin();
            while (alike && storm.calls < CALLS) {
                alike = storm.act(face);
                if (!alike) {
                    System.out.println("in run " + run + ", call " + storm.calls);
                    System.exit(1);
                }
            }
            calls += storm.calls;
        }
        System.out.println(calls + " calls answered alike in " + RUNS + " runs");
    }

    /** Some WEIGHTS at first; light ones in half of the runs, so that sets of them reach far. */
    private boolean begin() throws Exception {
        int most = lot.nextBoolean() ? 8 : 300;
        boolean alike = true;
        for (int i = lot.nextInt(11); i > 0 && alike; i--) {
            alike = both("weight", lot.nextInt(6), 1 + lot.nextInt(most));
        }
        return alike;
    }

    private boolean act(Method[] face) throws Exception {
        int way = lot.nextInt(100);
        if (way < 6) {
            return feedText();
        }
        if (way < 8) {
            return tellDays();
        }
        if (way < 10) {
            return writeWear();
        }
        if (way < 20 && x.count(0) > 0) {
            int left = likelyNumber(SET);
            return both("weigh", lot.nextInt(4), left, likelyNumber(SET) & ~left);
        }
        Method method = face[lot.nextInt(face.length)];
        String name = method.getName();
        if (SELDOM.contains(name) && lot.nextInt(5) != 0) {
            return true;
        }
        Object[] args = new Object[method.getParameterCount()];
        int[][] ranges = RANGES.get(name);
        boolean wild = lot.nextInt(12) == 0;
        for (int i = 0; i < args.length; i++) {
            args[i] = wild && lot.nextInt(2) == 0 ? anyNumber() : likelyNumber(ranges[i]);
        }
        if (ranges.length > 1 && ranges[1] == SET && lot.nextInt(20) != 0) {
            args[2] = (int) args[2] & ~(int) args[1];
        }
        return both(name, args);
    }

    private int likelyNumber(int[] range) {
        if (range == WEIGHT) {
            return lot.nextInt(x.count(0) + (lot.nextInt(20) == 0 ? 2 : x.count(0) == 0 ? 1 : 0));
        }
        if (range == SET) {
            return lot.nextInt(1 << x.count(0)) & (lot.nextBoolean() ? lot.nextInt(1024) : 1023);
        }
        int most = lot.nextBoolean() ? range[1] : Math.min(range[1], range[0] + 40);
        return range[0] + lot.nextInt(most - range[0] + 1);
    }

    private int anyNumber() {
        return lot.nextInt(5) == 0 ? lot.nextInt() : EDGES[lot.nextInt(EDGES.length)];
    }

    private boolean both(String name, Object... args) throws Exception {
        Class<?>[] types = new Class<?>[args.length];
        Arrays.fill(types, int.class);
        String ahead = lot.nextInt(8) == 0 ? seen() : null;
        Object got;
        try {
            got = WornWeights.class.getDeclaredMethod(name, types).invoke(x, args);
        } catch (InvocationTargetException thrown) {
            System.out.println(name + Arrays.toString(args) + " threw " + thrown.getCause());
            return false;
        }
        Object want = Model.class.getDeclaredMethod(name, types).invoke(model, args);
        calls++;
        if (!got.equals(want)) {
            System.out.println(name + Arrays.toString(args) + " answered " + got + ", due is " + want);
            return false;
        }
        boolean usesUp = name.equals("text") || name.equals("check");
        if (ahead != null && !usesUp && (int) got <= -1000000001 && (int) got >= -1000000014 && !ahead.equals(seen())) {
            System.out.println(name + Arrays.toString(args) + " was refused and changed something");
            return false;
        }
        return true;
    }

    /** What can be asked of WornWeights without a change, as far as it fits in a row. */
    private String seen() {
        StringBuilder all = new StringBuilder();
        for (int i = 0; i < 10; i++) {
            all.append(x.count(i)).append(' ');
            for (int what = 0; what < 7; what++) {
                all.append(x.told(i, what)).append(' ');
            }
        }
        for (int i = 0; i < 20; i++) {
            for (int what = 0; what < 4; what++) {
                all.append(x.page(i, what)).append(' ');
            }
        }
        for (int i = 0; i < 14; i++) {
            all.append(x.textTold(i, 0)).append(x.why(i)).append(' ');
        }
        for (int slot = 0; slot < 5; slot++) {
            all.append(x.ask(slot, 0)).append(x.rest(slot, 1 << 30)).append(' ');
            for (int place = 0; place < 24; place++) {
                all.append(x.item(slot, place)).append(' ');
            }
        }
        return all.toString();
    }

    /** Makes a SHEET tell what a WEIGHT will weigh, with a place or two that are otherwise. */
    private boolean writeWear() throws Exception {
        int weight = likelyNumber(WEIGHT);
        int sort = lot.nextInt(2);
        int n = 1 + lot.nextInt(12);
        boolean alike = both("sheet", 0, sort, n);
        for (int i = 0; i < n && alike; i++) {
            int off = lot.nextInt(20) == 0 ? 1 : 0;
            int v = lot.nextInt(10) == 0 && sort == 1 ? Due.NONE : model.behind(weight, i) + off;
            alike = both("mark", 0, i, v);
        }
        return alike && both("reads", 0, weight);
    }

    private boolean tellDays() throws Exception {
        int n = 1 + lot.nextInt(lot.nextInt(4) == 0 ? 30 : 4);
        List<Integer> told = new ArrayList<>(model.daysTold(n));
        if (lot.nextInt(4) == 0 && !told.isEmpty()) {
            told.set(lot.nextInt(told.size()), lot.nextInt(3000));
        }
        if (lot.nextInt(6) == 0) {
            told.add(lot.nextInt(100));
        }
        for (int v : told) {
            if (!both("tell", v)) {
                return false;
            }
        }
        return both("check", n);
    }

    private boolean feedText() throws Exception {
        String text = lot.nextInt(12) == 0 ? noise() : spoiled(written());
        if (text.length() > 96) {
            return true;
        }
        if (!both("trim", 0)) {
            return false;
        }
        for (int i = 0; i < text.length(); i += 12) {
            if (!both("feed", Due.word(text, i), Due.word(text, i + 4), Due.word(text, i + 8))) {
                return false;
            }
        }
        return both("trim", text.length()) && both("text");
    }

    private String noise() {
        StringBuilder text = new StringBuilder();
        for (int i = lot.nextInt(40); i > 0; i--) {
            text.append("wearlawfine gtsdl0123456789()!|&<=>+-*/ ".charAt(lot.nextInt(40)));
        }
        return text.toString();
    }

    private String spoiled(String text) {
        if (lot.nextInt(3) != 0 || text.isEmpty()) {
            return text;
        }
        int at = lot.nextInt(text.length());
        switch (lot.nextInt(4)) {
            case 0: return text.substring(0, at);
            case 1: return text.substring(0, at) + text.substring(at + 1);
            case 2: return text.substring(0, at) + (char) lot.nextInt(256) + text.substring(at + 1);
            default: return text.substring(0, at) + noise() + text.substring(at);
        }
    }

    private String written() {
        int key = lot.nextInt(3);
        String names = new String[] {"gts", "sd", "lt"}[key];
        return blanks() + new String[] {"wear", "law", "fine"}[key] + " " + blanks() + level(0, names, 0) + blanks();
    }

    private String blanks() {
        return lot.nextInt(5) == 0 ? " " : "";
    }

    private String level(int level, String names, int depth) {
        if (level == 5) {
            return piece(names, depth);
        }
        String signs = new String[] {"|", "&", "<=>", "+-", "*/"}[level];
        StringBuilder text = new StringBuilder(level(level + 1, names, depth));
        int more = lot.nextInt(4) == 0 ? 1 + lot.nextInt(level == 2 ? 1 : 2) : 0;
        for (int i = 0; i < more; i++) {
            text.append(blanks()).append(signs.charAt(lot.nextInt(signs.length()))).append(blanks());
            text.append(level(level + 1, names, depth));
        }
        return text.toString();
    }

    private String piece(String names, int depth) {
        int way = lot.nextInt(10);
        if (way < 4 || depth > 10) {
            return "" + names.charAt(lot.nextInt(names.length()));
        }
        if (way < 7) {
            return "" + lot.nextInt(lot.nextInt(3) == 0 ? 10000 : 20);
        }
        if (way < 8) {
            return "!".repeat(1 + lot.nextInt(lot.nextInt(6) == 0 ? 9 : 2)) + blanks() + piece(names, depth + 1);
        }
        int many = 1 + lot.nextInt(lot.nextInt(6) == 0 ? 9 : 1);
        return "(".repeat(many) + blanks() + level(0, names, depth + 1) + blanks() + ")".repeat(many);
    }
}
