import java.util.Arrays;

/** Weights that wear, balances that weigh them, and what is told of both. */
public final class WornWeights {
    public static final int BAD = -1000000001, NO = -1000000002, FULL = -1000000003, NONE = -1000000005, NOTHING = -1000000011, KIND = -1000000012, INDEX = -1000000013, SIZE = -1000000014;

    private static final int WEIGHTS_MOST = 10;
    private static final int GRAINS_MOST = 999;
    private static final int SHOT_MOST = 99999;
    private static final int DAY_MOST = 9999;

    private static final int KINDS = 6;
    private static final int LEAD = 1, SILK = 2, SCARRED = 3, OLD = 4, FALSE = 5;
    /** For each KIND the one right above it; -1 above the topmost. */
    private static final int[] ABOVE = {-1, 0, 0, 1, 2, 0};

    private static final int BALANCES = 4;
    private static final int ARM_FIRST = 100, ARM_LEAST = 90, ARM_MOST = 110;

    private static final int PAGES_MOST = 20;
    private static final int PAGE_WIDTH = 5;
    private static final int PAGE_LEFT = 0, PAGE_RIGHT = 1, PAGE_SAYS = 2, PAGE_LEFT_ARM = 3, PAGE_RIGHT_ARM = 4;
    private static final int FITS = 3;

    private static final int TEXTS_MOST = 14;
    private static final int TAPE_MOST = 96;
    private static final int FEED_BYTES = 12;
    private static final int FAULT_FIRST = -100;
    private static final int KEYS = 3;
    private static final int WEAR = 0, LAW = 1, FINE = 2;

    private static final int SHEETS = 4, SHEET_MOST = 24;
    private static final int MISSING = -1, SHORTS = 0, FLOATS = 1;
    private static final int FLOAT_MOST = 99999;

    private static final int SLOTS = 5;
    private static final int THING_NOTHING = 0, THING_WEIGHT = 1, THING_SHEET = 2, THING_NUMBER = 3;

    private static final int WAITING_MOST = 60;

    private final World live = new World();
    private final World image = new World();
    /** The world in which check() lets THE DAYS TOLD pass. */
    private final World trial = new World();
    private boolean kept;
    private final Reader reader = new Reader();
    private final Tape tape = reader.tape;
    private final Sheet[] sheets = new Sheet[SHEETS];
    private final Slot[] slots = new Slot[SLOTS];
    private final int[] waiting = new int[WAITING_MOST];
    private int waitingCount;

    public WornWeights() {
        for (int i = 0; i < SHEETS; i++) {
            sheets[i] = new Sheet();
        }
        for (int i = 0; i < SLOTS; i++) {
            slots[i] = new Slot();
        }
    }

    // ---- weights, balances

    public int weight(int kind, int stamp) {
        if (!isKind(kind) || !within(stamp, 1, GRAINS_MOST)) {
            return BAD;
        }
        if (!live.hasRoom()) {
            return FULL;
        }
        return live.addWeight(kind, stamp);
    }

    public int told(int weight, int what) {
        Weight asked = live.weightAt(weight);
        if (asked == null) {
            return BAD;
        }
        switch (what) {
            case 0: return asked.kind;
            case 1: return asked.stamp;
            case 2: return asked.grains;
            case 3: return asked.times;
            case 4: return live.weighingLoss(asked);
            case 5: return live.fallLoss(asked);
            case 6: return asked.worth();
            default: return BAD;
        }
    }

    public int as(int weight, int kind) {
        Weight asked = live.weightAt(weight);
        if (asked == null || !isKind(kind)) {
            return BAD;
        }
        return asked.isOf(kind) ? asked.grains : KIND;
    }

    public int turns(int weight, int kind) {
        Weight turned = live.weightAt(weight);
        if (turned == null || !isKind(kind)) {
            return BAD;
        }
        int was = turned.kind;
        turned.kind = kind;
        return was;
    }

    public int file(int weight, int v) {
        Weight filed = live.weightAt(weight);
        if (filed == null || !within(v, 0, GRAINS_MOST)) {
            return BAD;
        }
        int was = filed.grains;
        filed.grains = v;
        return was;
    }

    public int arm(int balance, int side, int v) {
        if (!within(balance, 0, BALANCES - 1) || !within(side, 0, 1) || !within(v, ARM_LEAST, ARM_MOST)) {
            return BAD;
        }
        int was = live.armAt(balance, side);
        live.bendArm(balance, side, v);
        return was;
    }

    public int deal(int n) {
        if (!within(n, 1, WEIGHTS_MOST)) {
            return BAD;
        }
        int came = 0;
        while (came < n && live.hasRoom()) {
            live.drawWeight();
            came++;
        }
        return came;
    }

    public int seed(int v) {
        int was = live.z;
        live.z = v;
        return was;
    }

    // ---- weighings, days

    public int weigh(int balance, int left, int right) {
        int says = sayOrRefuse(balance, left, right);
        if (says >= 0) {
            live.wearAll(left | right);
            live.book.write(left, right, says, live.armAt(balance, 0), live.armAt(balance, 1));
        }
        return says;
    }

    public int said(int balance, int left, int right) {
        return sayOrRefuse(balance, left, right);
    }

    public int fall(int weight) {
        Weight falling = live.weightAt(weight);
        return falling == null ? BAD : live.letFall(falling);
    }

    public int shoot(int weight, int n) {
        Weight shot = live.weightAt(weight);
        if (shot == null || !within(n, 1, GRAINS_MOST)) {
            return BAD;
        }
        return live.giveShot(shot, n);
    }

    public int monday() {
        return live.makeRight();
    }

    public int days(int n) {
        if (!within(n, 1, 60)) {
            return BAD;
        }
        int falls = 0;
        for (int i = 0; i < n && live.day < DAY_MOST; i++) {
            falls += live.passDay();
        }
        return falls;
    }

    public int page(int i, int what) {
        if (!within(what, 0, FITS)) {
            return BAD;
        }
        if (!live.book.has(i)) {
            return NONE;
        }
        if (what == FITS) {
            return live.fits(i, 0) ? 1 : 0;
        }
        return live.book.read(i, what);
    }

    // ---- what comes out

    public int behind(int weight, int n) {
        Weight asked = live.weightAt(weight);
        if (asked == null || !within(n, 0, 500)) {
            return BAD;
        }
        Weight worn = live.spareOf(asked);
        for (int i = 0; i < n; i++) {
            live.wearOnce(worn);
        }
        return worn.grains;
    }

    public int lasts(int weight, int g) {
        Weight asked = live.weightAt(weight);
        if (asked == null || !within(g, 1, GRAINS_MOST)) {
            return BAD;
        }
        Weight worn = live.spareOf(asked);
        int times = 0;
        while (times < 999 && worn.grains >= g) {
            live.wearOnce(worn);
            times++;
        }
        return times;
    }

    public int canWeigh(int set) {
        if (!live.isSet(set)) {
            return BAD;
        }
        live.sortByGrains();
        return live.reachOf(set);
    }

    public int smallest(int n) {
        if (!within(n, 1, 999)) {
            return BAD;
        }
        live.sortByGrains();
        int best = NONE;
        int fewest = WEIGHTS_MOST + 1;
        int sets = live.setCount();
        for (int set = 1; set < sets; set++) {
            int many = Integer.bitCount(set);
            if (many < fewest && live.reachOf(set) >= n) {
                fewest = many;
                best = set;
            }
        }
        return best;
    }

    public int gain(int g, int what) {
        if (!within(g, 1, WEIGHTS_MOST * GRAINS_MOST) || !within(what, 0, 1)) {
            return BAD;
        }
        int best = live.lightestFor(g);
        if (best == 0) {
            return NONE;
        }
        return what == 0 ? g - live.grainsOf(best) : best;
    }

    public int pound(int part) {
        if (!within(part, 0, 1)) {
            return BAD;
        }
        int above = live.grainsOf(live.allSet());
        int below = live.stampsOf(live.allSet());
        int common = commonDivisor(below, above);
        if (common == 0) {
            return part;
        }
        return part == 0 ? above / common : below / common;
    }

    public int falseOne() {
        int most = live.fitCount(0);
        int best = NONE;
        for (int i = 0; i < live.weightCount; i++) {
            int fit = live.fitCount(1 << i);
            if (fit > most) {
                most = fit;
                best = i;
            }
        }
        return best;
    }

    public int fine(int weight) {
        Weight asked = live.weightAt(weight);
        return asked == null ? BAD : live.fineOf(asked);
    }

    // ---- texts

    public int feed(int a, int b, int c) {
        if (tape.length > TAPE_MOST - FEED_BYTES) {
            return FULL;
        }
        tape.addNumber(a);
        tape.addNumber(b);
        tape.addNumber(c);
        return tape.length;
    }

    public int trim(int n) {
        if (!within(n, 0, tape.length)) {
            return BAD;
        }
        tape.length = n;
        return n;
    }

    public int text() {
        Text read = reader.readTape();
        tape.length = 0;
        if (read == null) {
            return FAULT_FIRST - reader.faultPlace();
        }
        if (live.textCount >= TEXTS_MOST) {
            return FULL;
        }
        return live.addText(read);
    }

    public int textTold(int text, int what) {
        Text asked = live.textAt(text);
        if (asked == null || !within(what, 0, 1)) {
            return BAD;
        }
        return what == 0 ? asked.key : asked.pieces;
    }

    public int why(int key) {
        return within(key, 0, KEYS - 1) ? live.countingText(key) : BAD;
    }

    // ---- sheets, slots

    public int sheet(int sheet, int sort, int n) {
        Sheet made = sheetAt(sheet);
        if (made == null || !within(sort, MISSING, FLOATS)) {
            return BAD;
        }
        if (sort == MISSING) {
            made.become(MISSING, 0);
            return 0;
        }
        if (n > SHEET_MOST) {
            return BAD;
        }
        if (n < 0) {
            return SIZE;
        }
        made.become(sort, n);
        return n;
    }

    public int mark(int sheet, int place, int v) {
        Sheet marked = sheetAt(sheet);
        if (marked == null) {
            return BAD;
        }
        if (marked.isMissing()) {
            return NOTHING;
        }
        if (!marked.has(place)) {
            return INDEX;
        }
        boolean shorts = marked.sort == SHORTS;
        if (shorts && v == NONE) {
            return KIND;
        }
        if (!shorts && v != NONE && !within(v, -FLOAT_MOST, FLOAT_MOST)) {
            return BAD;
        }
        marked.places[place] = shorts ? (short) v : v;
        return 1;
    }

    public int pour(int sheet) {
        Sheet poured = sheetAt(sheet);
        if (poured == null) {
            return BAD;
        }
        if (poured.isMissing()) {
            return NOTHING;
        }
        int otherwise = 0;
        for (int i = 0; i < live.weightCount; i++) {
            Weight filled = live.weightAt(i);
            if (filled != null && poured.hasNumber(i)) {
                int grains = held(poured.places[i], 0, GRAINS_MOST);
                otherwise += filled.grains == grains ? 0 : 1;
                filled.grains = grains;
            }
        }
        return otherwise;
    }

    public int reads(int sheet, int weight) {
        Sheet read = sheetAt(sheet);
        Weight asked = live.weightAt(weight);
        if (read == null || asked == null) {
            return BAD;
        }
        if (read.isMissing()) {
            return NOTHING;
        }
        Weight worn = live.spareOf(asked);
        for (int k = 0; k < read.size; k++) {
            if (read.hasNumber(k) && read.places[k] != worn.grains) {
                return k;
            }
            live.wearOnce(worn);
        }
        return NONE;
    }

    public int copy(int from, int place, int to, int at, int many) {
        Sheet source = sheetAt(from);
        Sheet target = sheetAt(to);
        if (source == null || target == null) {
            return BAD;
        }
        if (source.isMissing() || target.isMissing()) {
            return NOTHING;
        }
        if (source.sort != target.sort) {
            return KIND;
        }
        if (!source.hasRow(place, many) || !target.hasRow(at, many)) {
            return INDEX;
        }
        System.arraycopy(source.places, place, target.places, at, many);
        return many;
    }

    public int lay(int slot, int thing, int k) {
        Slot laid = slotAt(slot);
        if (laid == null || !within(thing, THING_NOTHING, THING_NUMBER)) {
            return BAD;
        }
        int was = laid.thing;
        if (thing == THING_WEIGHT) {
            Weight taken = live.weightAt(k);
            if (taken == null) {
                return BAD;
            }
            laid.weight.becomeAs(taken);
        }
        if (thing == THING_SHEET) {
            Sheet taken = sheetAt(k);
            if (taken == null) {
                return BAD;
            }
            if (taken.isMissing()) {
                return NOTHING;
            }
            laid.sheet.becomeAs(taken);
        }
        laid.number = k;
        laid.thing = thing;
        return was;
    }

    public int ask(int slot, int kind) {
        Slot asked = slotAt(slot);
        if (asked == null || !isKind(kind)) {
            return BAD;
        }
        if (asked.thing == THING_NOTHING) {
            return NOTHING;
        }
        if (asked.thing != THING_WEIGHT || !asked.weight.isOf(kind)) {
            return KIND;
        }
        return asked.weight.worth();
    }

    public int item(int slot, int place) {
        Slot asked = slotAt(slot);
        if (asked == null) {
            return BAD;
        }
        if (asked.thing == THING_NOTHING) {
            return NOTHING;
        }
        if (asked.thing != THING_SHEET) {
            return KIND;
        }
        if (!asked.sheet.has(place)) {
            return INDEX;
        }
        return asked.sheet.hasNumber(place) ? asked.sheet.places[place] : KIND;
    }

    public int rest(int slot, int n) {
        Slot asked = slotAt(slot);
        if (asked == null) {
            return BAD;
        }
        if (asked.thing == THING_NOTHING) {
            return NOTHING;
        }
        if (asked.thing != THING_NUMBER) {
            return KIND;
        }
        return n == 0 ? NO : asked.number % n;
    }

    // ---- rows, images

    public int tell(int v) {
        if (waitingCount >= WAITING_MOST) {
            return FULL;
        }
        waiting[waitingCount] = v;
        waitingCount++;
        return waitingCount;
    }

    public int check(int n) {
        int waited = waitingCount;
        waitingCount = 0;
        if (!within(n, 1, 30)) {
            return BAD;
        }
        if (!kept) {
            return NO;
        }
        trial.becomeAs(image);
        int right = 0;
        for (int i = 0; i < n && trial.day < DAY_MOST; i++) {
            trial.passDay();
            if (!stands(right, waited, trial.grainsOf(trial.allSet()))) {
                return 1 + right;
            }
            right++;
            if (!stands(right, waited, trial.shot)) {
                return 1 + right;
            }
            right++;
        }
        return right == waited ? 0 : 1 + right;
    }

    public int keep() {
        image.becomeAs(live);
        kept = true;
        return image.weightCount;
    }

    public int back() {
        if (!kept) {
            return NO;
        }
        live.becomeAs(image);
        return live.weightCount;
    }

    public int count(int what) {
        switch (what) {
            case 0: return live.weightCount;
            case 1: return live.grainsOf(live.allSet());
            case 2: return live.stampsOf(live.allSet());
            case 3: return live.book.count;
            case 4: return live.shot;
            case 5: return live.day;
            case 6: return live.textCount;
            case 7: return waitingCount;
            case 8: return tape.length;
            case 9: return live.z;
            default: return BAD;
        }
    }

    // ---- what several calls share

    private int sayOrRefuse(int balance, int left, int right) {
        if (!within(balance, 0, BALANCES - 1) || !live.isSet(left) || !live.isSet(right)) {
            return BAD;
        }
        if ((left & right) != 0 || (left | right) == 0) {
            return NO;
        }
        return live.sayOf(left, right, live.armAt(balance, 0), live.armAt(balance, 1));
    }

    private Sheet sheetAt(int i) {
        return within(i, 0, SHEETS - 1) ? sheets[i] : null;
    }

    private Slot slotAt(int i) {
        return within(i, 0, SLOTS - 1) ? slots[i] : null;
    }

    /** Whether of the numbers that waited, the one at a place is there and is v. */
    private boolean stands(int place, int waited, int v) {
        return place < waited && place < WAITING_MOST && waiting[place] == v;
    }

    private static boolean isKind(int kind) {
        return within(kind, 0, KINDS - 1);
    }

    private static boolean within(int v, int least, int most) {
        return v >= least && v <= most;
    }

    private static int held(int v, int least, int most) {
        return Math.max(least, Math.min(most, v));
    }

    /** Of two numbers, 0 or more each; 0 if both are 0. */
    private static int commonDivisor(int a, int b) {
        int greater = a;
        int lesser = b;
        // Euclid's steps for numbers below 10000 are fewer than 21.
        for (int i = 0; i < 64 && lesser != 0; i++) {
            int left = greater % lesser;
            greater = lesser;
            lesser = left;
        }
        return greater;
    }

    /** One WEIGHT; the World knows the TEXT by which it wears. */
    private static final class Weight {
        int kind;
        int stamp;
        int grains;
        int times;

        void becomeAs(Weight other) {
            kind = other.kind;
            stamp = other.stamp;
            grains = other.grains;
            times = other.times;
        }

        void stampAnew(int newKind, int newStamp) {
            kind = newKind;
            stamp = newStamp;
            grains = newStamp;
            times = 0;
        }

        boolean isOf(int asked) {
            int up = kind;
            for (int i = 0; i < KINDS && up >= 0 && up < KINDS; i++) {
                if (up == asked) {
                    return true;
                }
                up = ABOVE[up];
            }
            return false;
        }

        /** What it loses at a weighing, if a plain WEIGHT loses so much; GRAINS aren't asked yet. */
        int lossBy(int plain) {
            switch (kind) {
                case LEAD: return plain + 1;
                case SCARRED: return 2 * (plain + 1);
                case SILK: return plain / 2;
                case OLD: return times % 2 == 0 ? plain / 2 : 0;
                case FALSE: return 0;
                default: return plain;
            }
        }

        int worth() {
            switch (kind) {
                case LEAD: return grains - 2;
                case SCARRED: return grains - 2 - times;
                case SILK: return 2 * grains;
                case OLD: return 2 * grains + 100;
                case FALSE: return 7;
                default: return grains;
            }
        }
    }

    /** THE BOOK: its PAGES in one row, the oldest first. */
    private static final class Book {
        private final int[] row = new int[PAGES_MOST * PAGE_WIDTH];
        int count;

        void becomeAs(Book other) {
            count = other.count;
            System.arraycopy(other.row, 0, row, 0, row.length);
        }

        boolean has(int i) {
            return i >= 0 && i < count && i < PAGES_MOST;
        }

        int read(int i, int what) {
            return has(i) && within(what, 0, PAGE_WIDTH - 1) ? row[i * PAGE_WIDTH + what] : NONE;
        }

        void write(int left, int right, int says, int leftArm, int rightArm) {
            if (count >= PAGES_MOST) {
                System.arraycopy(row, PAGE_WIDTH, row, 0, row.length - PAGE_WIDTH);
                count = PAGES_MOST - 1;
            }
            int at = count * PAGE_WIDTH;
            row[at + PAGE_LEFT] = left;
            row[at + PAGE_RIGHT] = right;
            row[at + PAGE_SAYS] = says;
            row[at + PAGE_LEFT_ARM] = leftArm;
            row[at + PAGE_RIGHT_ARM] = rightArm;
            count++;
        }
    }

    /** All that AN IMAGE keeps. */
    private static final class World {
        private final Weight[] weights = new Weight[WEIGHTS_MOST];
        int weightCount;
        private final int[] arms = new int[2 * BALANCES];
        final Book book = new Book();
        int shot;
        int day;
        int z = 1;
        private final Text[] texts = new Text[TEXTS_MOST];
        int textCount;
        private final int[] counting = {NONE, NONE, NONE};
        /** Weighed in the stead of another one, which loses nothing by it. */
        private final Weight spare = new Weight();
        /** The numbers of all WEIGHTS, those with fewer GRAINS first, once they are sorted. */
        private final int[] order = new int[WEIGHTS_MOST];

        World() {
            for (int i = 0; i < WEIGHTS_MOST; i++) {
                weights[i] = new Weight();
            }
            Arrays.fill(arms, ARM_FIRST);
        }

        void becomeAs(World other) {
            weightCount = other.weightCount;
            for (int i = 0; i < WEIGHTS_MOST; i++) {
                weights[i].becomeAs(other.weights[i]);
            }
            System.arraycopy(other.arms, 0, arms, 0, arms.length);
            book.becomeAs(other.book);
            shot = other.shot;
            day = other.day;
            z = other.z;
            textCount = other.textCount;
            for (int i = 0; i < TEXTS_MOST; i++) {
                texts[i] = other.texts[i];
            }
            System.arraycopy(other.counting, 0, counting, 0, KEYS);
        }

        boolean hasRoom() {
            return weightCount < WEIGHTS_MOST;
        }

        /** The WEIGHT of a number; null if there is none. */
        Weight weightAt(int i) {
            return i >= 0 && i < weightCount && i < WEIGHTS_MOST ? weights[i] : null;
        }

        int addWeight(int kind, int stamp) {
            if (!hasRoom()) {
                return FULL;
            }
            weights[weightCount].stampAnew(kind, stamp);
            weightCount++;
            return weightCount - 1;
        }

        private int draw() {
            z = z * 1103515245 + 12345;
            return z >>> 8;
        }

        void drawWeight() {
            int kind = draw() % KINDS;
            int stamp = 1 + draw() % 400;
            addWeight(kind, stamp);
        }

        int armAt(int balance, int side) {
            int at = 2 * balance + side;
            return at >= 0 && at < arms.length ? arms[at] : ARM_FIRST;
        }

        void bendArm(int balance, int side, int v) {
            int at = 2 * balance + side;
            if (at >= 0 && at < arms.length) {
                arms[at] = v;
            }
        }

        int setCount() {
            return 1 << weightCount;
        }

        int allSet() {
            return setCount() - 1;
        }

        boolean isSet(int set) {
            return within(set, 0, allSet());
        }

        int grainsOf(int set) {
            int sum = 0;
            for (int i = 0; i < weightCount; i++) {
                sum += (set >> i & 1) * weights[i].grains;
            }
            return sum;
        }

        int stampsOf(int set) {
            int sum = 0;
            for (int i = 0; i < weightCount; i++) {
                sum += (set >> i & 1) * weights[i].stamp;
            }
            return sum;
        }

        int sayOf(int left, int right, int leftArm, int rightArm) {
            int leftPull = grainsOf(left) * leftArm;
            int rightPull = grainsOf(right) * rightArm;
            if (leftPull == rightPull) {
                return 0;
            }
            return leftPull > rightPull ? 1 : 2;
        }

        /** Whether a PAGE FITS with the WEIGHTS of a set left out of it. */
        boolean fits(int page, int without) {
            int left = book.read(page, PAGE_LEFT) & ~without;
            int right = book.read(page, PAGE_RIGHT) & ~without;
            int says = sayOf(left, right, book.read(page, PAGE_LEFT_ARM), book.read(page, PAGE_RIGHT_ARM));
            return says == book.read(page, PAGE_SAYS);
        }

        int fitCount(int without) {
            int sum = 0;
            for (int i = 0; i < book.count; i++) {
                sum += fits(i, without) ? 1 : 0;
            }
            return sum;
        }

        int weighingLoss(Weight asked) {
            int plain = 1;
            Text wear = textAt(counting[WEAR]);
            if (wear != null) {
                plain = held(wear.gives(asked.grains, asked.times, asked.stamp), 0, 99);
            }
            return Math.min(asked.lossBy(plain), asked.grains);
        }

        int fallLoss(Weight asked) {
            return Math.min(10 * weighingLoss(asked), asked.grains);
        }

        int lawFor(Weight asked) {
            Text law = textAt(counting[LAW]);
            if (law == null) {
                return asked.stamp - asked.stamp / 10;
            }
            return held(law.gives(asked.stamp, day, 0), 0, GRAINS_MOST);
        }

        int fineOf(Weight asked) {
            int missing = asked.stamp - asked.grains;
            Text fine = textAt(counting[FINE]);
            return fine == null ? Math.max(0, missing) : fine.gives(missing, asked.times, 0);
        }

        void wearOnce(Weight worn) {
            worn.grains -= weighingLoss(worn);
            worn.times++;
        }

        void wearAll(int set) {
            for (int i = 0; i < weightCount; i++) {
                if ((set >> i & 1) != 0) {
                    wearOnce(weights[i]);
                }
            }
        }

        int letFall(Weight falling) {
            int lost = fallLoss(falling);
            falling.grains -= lost;
            return lost;
        }

        int giveShot(Weight given, int n) {
            int took = Math.min(n, GRAINS_MOST - given.grains);
            given.grains += took;
            shot = Math.min(SHOT_MOST, shot + took);
            return took;
        }

        /** A MONDAY: how many grains of SHOT all took. */
        int makeRight() {
            int took = 0;
            for (int i = 0; i < weightCount; i++) {
                int lacks = lawFor(weights[i]) - weights[i].grains;
                if (lacks > 0) {
                    took += giveShot(weights[i], lacks);
                }
            }
            return took;
        }

        /** A DAY: how many fell. */
        int passDay() {
            int falls = 0;
            for (int i = 0; i < weightCount; i++) {
                if (draw() % 100 < 5) {
                    letFall(weights[i]);
                    falls++;
                }
            }
            if (day % 7 == 0) {
                makeRight();
            }
            day++;
            return falls;
        }

        /** A WEIGHT that is as another one now, to be worn in its stead. */
        Weight spareOf(Weight asked) {
            spare.becomeAs(asked);
            return spare;
        }

        void sortByGrains() {
            for (int i = 0; i < weightCount; i++) {
                int at = i;
                while (at > 0 && weights[order[at - 1]].grains > weights[i].grains) {
                    order[at] = order[at - 1];
                    at--;
                }
                order[at] = i;
            }
        }

        /** How far a set CAN WEIGH; the order must have been sorted since GRAINS changed. */
        int reachOf(int set) {
            int reach = 0;
            for (int i = 0; i < weightCount; i++) {
                int number = order[i];
                if ((set >> number & 1) != 0) {
                    // All that follow are heavier still, so none of them can fill the gap.
                    if (weights[number].grains > reach + 1) {
                        return reach;
                    }
                    reach += weights[number].grains;
                }
            }
            return reach;
        }

        /** The set for a sale of g; 0 if there is none. */
        int lightestFor(int g) {
            int best = 0;
            int fewest = 0;
            for (int set = 1; set < setCount(); set++) {
                if (stampsOf(set) == g) {
                    int grains = grainsOf(set);
                    if (best == 0 || grains < fewest) {
                        best = set;
                        fewest = grains;
                    }
                }
            }
            return best;
        }

        /** The TEXT of a number; null if there is none. */
        Text textAt(int i) {
            return i >= 0 && i < textCount && i < TEXTS_MOST ? texts[i] : null;
        }

        int addText(Text added) {
            if (textCount >= TEXTS_MOST) {
                return FULL;
            }
            texts[textCount] = added;
            if (within(added.key, 0, KEYS - 1)) {
                counting[added.key] = textCount;
            }
            textCount++;
            return textCount - 1;
        }

        int countingText(int key) {
            return within(key, 0, KEYS - 1) ? counting[key] : NONE;
        }
    }

    /**
     * A TEXT as a row of steps: a NUMBER is itself, a NAME stands from FIRST_NAME on by its
     * place among the NAMES of the KEY, a sign is below 0.
     */
    private static final class Text {
        static final int FIRST_NAME = 10000;

        final int key;
        /** How many NUMBERS and NAMES. */
        final int pieces;
        private final int[] steps;
        /** What is worked out so far; it never holds more than all pieces. */
        private final int[] stack;

        Text(int key, int pieces, int[] steps) {
            this.key = key;
            this.pieces = pieces;
            this.steps = steps;
            this.stack = new int[Math.max(0, pieces)];
        }

        /** What it gives, if its NAMES stand for a, b, c in their order. */
        int gives(int a, int b, int c) {
            int height = 0;
            for (int i = 0; i < steps.length; i++) {
                int step = steps[i];
                if (step >= 0) {
                    if (height < stack.length) {
                        stack[height] = valueOf(step, a, b, c);
                        height++;
                    }
                } else if (step == -'!') {
                    if (height > 0) {
                        stack[height - 1] = stack[height - 1] == 0 ? 1 : 0;
                    }
                } else if (height > 1) {
                    height--;
                    stack[height - 1] = joined(stack[height - 1], -step, stack[height]);
                }
            }
            return height > 0 ? stack[0] : 0;
        }

        private static int valueOf(int step, int a, int b, int c) {
            switch (step) {
                case FIRST_NAME: return a;
                case FIRST_NAME + 1: return b;
                case FIRST_NAME + 2: return c;
                default: return step;
            }
        }

        private static int joined(int left, int sign, int right) {
            switch (sign) {
                case '|': return left != 0 || right != 0 ? 1 : 0;
                case '&': return left != 0 && right != 0 ? 1 : 0;
                case '<': return left < right ? 1 : 0;
                case '=': return left == right ? 1 : 0;
                case '>': return left > right ? 1 : 0;
                case '+': return left + right;
                case '-': return left - right;
                case '*': return left * right;
                case '/': return right == 0 ? 0 : left / right;
                default: return 0;
            }
        }
    }

    /** THE TAPE. */
    private static final class Tape {
        static final int BEYOND = -1;

        private final int[] bytes = new int[TAPE_MOST];
        int length;

        void addNumber(int v) {
            for (int shift = 24; shift >= 0; shift -= 8) {
                if (length < TAPE_MOST) {
                    bytes[length] = v >> shift & 255;
                    length++;
                }
            }
        }

        int byteAt(int place) {
            return place >= 0 && place < length && place < TAPE_MOST ? bytes[place] : BEYOND;
        }
    }

    /** Reads a TEXT from THE TAPE, always one word or sign ahead of what it has taken. */
    private static final class Reader {
        /** What is ahead, if it's no sign: a sign is its own byte. */
        private static final int END = -1, WORD = -2, NUMBER = -3, UNPARTED = -4;
        private static final int OPEN_MOST = 8;
        private static final int DIGITS_MOST = 4;
        /** How tightly signs bind, the loosest first; a PIECE stands behind the last of them. */
        private static final int OR_LEVEL = 0, AND_LEVEL = 1, TEST_LEVEL = 2, SUM_LEVEL = 3, TERM_LEVEL = 4, PIECE_LEVEL = 5;
        private static final int NO_FAULT = -1, NO_STEP = -1;

        final Tape tape = new Tape();
        private int ahead;
        private int start;
        private int end;
        private int fault;
        private int key;
        private int pieces;
        private final int[] steps = new int[TAPE_MOST];
        private int stepCount;

        /** The TEXT; null if there is a FAULT in it. */
        Text readTape() {
            ahead = END;
            start = 0;
            end = 0;
            fault = NO_FAULT;
            pieces = 0;
            stepCount = 0;
            goOn();
            readKey();
            if (fault == NO_FAULT) {
                readLevel(OR_LEVEL, 0, 0);
            }
            if (ahead != END) {
                stop();
            }
            return fault == NO_FAULT ? new Text(key, pieces, Arrays.copyOf(steps, stepCount)) : null;
        }

        int faultPlace() {
            return Math.max(0, fault);
        }

        /** Only the first FAULT is told; nothing is taken behind it. */
        private void stop() {
            if (fault == NO_FAULT) {
                fault = start;
            }
        }

        private void goOn() {
            boolean behindWord = ahead == WORD || ahead == NUMBER;
            int from = end;
            start = endOfRow(from, ' ', ' ');
            int first = tape.byteAt(start);
            if (within(first, 'a', 'z')) {
                ahead = WORD;
                end = endOfRow(start, 'a', 'z');
            } else if (within(first, '0', '9')) {
                ahead = NUMBER;
                end = endOfRow(start, '0', '9');
            } else if (first == Tape.BEYOND) {
                ahead = END;
            } else {
                ahead = first;
                end = start + 1;
            }
            boolean word = ahead == WORD || ahead == NUMBER;
            if (word && behindWord && start == from) {
                ahead = UNPARTED;
            }
        }

        /** The first place from one on whose byte isn't within two. */
        private int endOfRow(int from, int least, int most) {
            int place = from;
            while (place < tape.length && within(tape.byteAt(place), least, most)) {
                place++;
            }
            return place;
        }

        private boolean isWord(String word) {
            if (ahead != WORD || end - start != word.length()) {
                return false;
            }
            for (int i = 0; i < word.length(); i++) {
                if (tape.byteAt(start + i) != word.charAt(i)) {
                    return false;
                }
            }
            return true;
        }

        private void readKey() {
            if (isWord("wear")) {
                key = WEAR;
            } else if (isWord("law")) {
                key = LAW;
            } else if (isWord("fine")) {
                key = FINE;
            } else {
                stop();
                return;
            }
            goOn();
        }

        private void readLevel(int level, int brackets, int nots) {
            if (level >= PIECE_LEVEL) {
                readPiece(brackets, nots);
                return;
            }
            readLevel(level + 1, brackets, nots);
            int most = level == TEST_LEVEL ? 1 : TAPE_MOST;
            for (int i = 0; i < most && fault == NO_FAULT && levelOf(ahead) == level; i++) {
                int sign = ahead;
                goOn();
                readLevel(level + 1, brackets, nots);
                addStep(-sign);
            }
        }

        private static int levelOf(int sign) {
            switch (sign) {
                case '|': return OR_LEVEL;
                case '&': return AND_LEVEL;
                case '<': case '=': case '>': return TEST_LEVEL;
                case '+': case '-': return SUM_LEVEL;
                case '*': case '/': return TERM_LEVEL;
                default: return PIECE_LEVEL;
            }
        }

        private void readPiece(int brackets, int nots) {
            if (ahead == NUMBER) {
                addPiece(numberAhead());
            } else if (ahead == WORD) {
                addPiece(nameAhead());
            } else if (ahead == '!' && nots < OPEN_MOST) {
                goOn();
                readPiece(brackets, nots + 1);
                addStep(-'!');
            } else if (ahead == '(' && brackets < OPEN_MOST) {
                goOn();
                readLevel(OR_LEVEL, brackets + 1, nots);
                readClose();
            } else {
                stop();
            }
        }

        private void readClose() {
            if (fault != NO_FAULT) {
                return;
            }
            if (ahead == ')') {
                goOn();
            } else {
                stop();
            }
        }

        /** The step of the NUMBER ahead; NO_STEP if it has too many digits. */
        private int numberAhead() {
            if (end - start > DIGITS_MOST) {
                return NO_STEP;
            }
            int value = 0;
            for (int place = start; place < end; place++) {
                value = 10 * value + tape.byteAt(place) - '0';
            }
            return value;
        }

        /** The step of the NAME ahead; NO_STEP if the KEY has no such NAME. */
        private int nameAhead() {
            String names = key == WEAR ? "gts" : key == LAW ? "sd" : "lt";
            int name = names.indexOf((char) tape.byteAt(start));
            return end - start == 1 && name >= 0 ? Text.FIRST_NAME + name : NO_STEP;
        }

        private void addPiece(int step) {
            if (step == NO_STEP) {
                stop();
                return;
            }
            addStep(step);
            pieces++;
            goOn();
        }

        private void addStep(int step) {
            if (stepCount < TAPE_MOST) {
                steps[stepCount] = step;
                stepCount++;
            }
        }
    }

    /** A SHEET: a row of numbers; NO NUMBER is held as NONE, which no sort has for a number. */
    private static final class Sheet {
        int sort = MISSING;
        int size;
        final int[] places = new int[SHEET_MOST];

        void become(int newSort, int newSize) {
            sort = newSort;
            size = held(newSize, 0, SHEET_MOST);
            Arrays.fill(places, 0);
        }

        void becomeAs(Sheet other) {
            sort = other.sort;
            size = other.size;
            System.arraycopy(other.places, 0, places, 0, SHEET_MOST);
        }

        boolean isMissing() {
            return sort == MISSING;
        }

        boolean has(int place) {
            return place >= 0 && place < size;
        }

        boolean hasNumber(int place) {
            return has(place) && places[place] != NONE;
        }

        boolean hasRow(int place, int many) {
            return place >= 0 && within(many, 0, size) && place <= size - many;
        }
    }

    /** A SLOT; of what it may hold only that counts which thing names. */
    private static final class Slot {
        int thing = THING_NOTHING;
        int number;
        final Weight weight = new Weight();
        final Sheet sheet = new Sheet();
    }
}
