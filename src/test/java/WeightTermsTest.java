/** 'Terms', what stands ahead and part 1: each sentence that names an end, a first state or a hold. */
public final class WeightTermsTest {
    private static final Due due = new Due();

    public static void main(String[] args) {
        fiveHundredTwelveCalls();
        cutsTowards0();
        setsAsBits();
        tenWeights();
        stamp();
        grains();
        times();
        kinds();
        shot();
        theDay();
        weightLoses();
        leadLoses();
        scarredLoses();
        silkLoses();
        oldLoses();
        falseLoses();
        noMoreThanGrains();
        losesAtAFall();
        kindNotNamed();
        worth();
        balances();
        pull();
        pullOfSeveral();
        due.end();
    }

    private static void fiveHundredTwelveCalls() {
        due.head("An object is used for at most 512 calls after it has been made");
        WornWeights x = new WornWeights();
        x.weight(3, 999);
        for (int i = 0; i < 508; i++) {
            x.weigh(0, 1, 0);
        }
        due.is("times, call 510", x.told(0, 3), 508);
        due.is("worth, call 511", x.told(0, 6), -2 - 508);
        due.is("pages, call 512", x.count(3), 20);
    }

    private static void cutsTowards0() {
        due.term(0, "All numbers are whole; / cuts towards 0");
        WornWeights x = Due.with(5, 10);
        int[] above = {7, -7, 7, -7, 1, -1};
        int[] below = {2, 2, -2, -2, 2, 2};
        int[] want = {3, -3, -3, 3, 0, 0};
        for (int i = 0; i < above.length; i++) {
            Due.text(x, "fine " + signed(above[i]) + "/" + signed(below[i]));
            due.is(above[i] + " / " + below[i], x.fine(0), want[i]);
        }
    }

    private static String signed(int v) {
        return v < 0 ? "(0-" + -v + ")" : "" + v;
    }

    private static void setsAsBits() {
        due.term(0, "Sets of WEIGHTS are told as bits (bit k for number k)");
        WornWeights x = new WornWeights();
        for (int k = 0; k < 10; k++) {
            x.weight(5, 1 << k);
        }
        for (int k = 0; k < 10; k++) {
            due.is("bit " + k + " against what is one less", x.said(0, 1 << k, (1 << k) - 1), 1);
            due.is("the set of g " + k, x.gain(1 << k, 1), 1 << k);
        }
        due.is("all ten", x.canWeigh(1023), 1023);
        due.is("bit 10", x.canWeigh(1024), Due.BAD);
        due.is("all ten and bit 10", x.canWeigh(2047), Due.BAD);
        due.is("bit 31", x.canWeigh(Integer.MIN_VALUE), Due.BAD);
        due.is("bit 31 and bit 0", x.canWeigh(Integer.MIN_VALUE + 1), Due.BAD);
        due.is("no bit", x.canWeigh(0), 0);
    }

    private static void tenWeights() {
        due.term(1, "WEIGHTS, 10 at most, numbered from 0");
        WornWeights x = new WornWeights();
        due.is("none at first", x.count(0), 0);
        due.is("number 0 is not there", x.told(0, 0), Due.BAD);
        for (int i = 0; i < 10; i++) {
            due.is("number " + i + " is not there yet", x.told(i, 1), Due.BAD);
            due.is("number", x.weight(0, 100 + i), i);
            due.is("stamp of number " + i, x.told(i, 1), 100 + i);
        }
        due.is("the eleventh", x.weight(0, 1), Due.FULL);
        due.is("ten still", x.count(0), 10);
        due.is("the tenth is as it was", x.told(9, 1), 109);
        due.is("number 10 is not there", x.told(10, 1), Due.BAD);
    }

    private static void stamp() {
        due.term(1, "STAMP 1 .. 999 (pounds by grains)");
        WornWeights x = new WornWeights();
        due.is("0", x.weight(0, 0), Due.BAD);
        due.is("-1", x.weight(0, -1), Due.BAD);
        due.is("1000", x.weight(0, 1000), Due.BAD);
        due.is("none came", x.count(0), 0);
        due.is("1", x.weight(0, 1), 0);
        due.is("999", x.weight(0, 999), 1);
        due.is("1", x.told(0, 1), 1);
        due.is("999", x.told(1, 1), 999);
    }

    private static void grains() {
        due.term(1, "GRAINS 0 .. 999 (STAMP at first)");
        WornWeights x = Due.with(0, 1, 3, 999);
        due.is("1 at first", x.told(0, 2), 1);
        due.is("999 at first", x.told(1, 2), 999);
        x.weigh(0, 1, 0);
        due.is("0", x.told(0, 2), 0);
        x.weigh(0, 1, 0);
        x.fall(0);
        due.is("0 still", x.told(0, 2), 0);
        x.shoot(0, 999);
        due.is("999", x.told(0, 2), 999);
        x.shoot(0, 1);
        due.is("999 still", x.told(0, 2), 999);
        x.keep();
        x.file(0, 5);
        x.weight(0, 70);
        x.file(2, 5);
        x.back();
        x.weight(0, 60);
        due.is("STAMP at first, where another one was ahead of back()", x.told(2, 2), 60);
    }

    private static void times() {
        due.term(1, "TIMES (how often it was weighed; 0 at first)");
        WornWeights x = Due.with(0, 900, 0, 900);
        due.is("at first", x.told(0, 3), 0);
        x.said(0, 1, 2);
        x.behind(0, 9);
        x.lasts(0, 9);
        x.fall(0);
        x.shoot(0, 5);
        x.monday();
        x.days(60);
        x.file(0, 900);
        x.turns(0, 1);
        x.weigh(0, 1, 1);
        due.is("none of these is a weighing", x.told(0, 3), 0);
        x.weigh(0, 1, 0);
        x.weigh(0, 0, 1);
        x.weigh(0, 2, 1);
        due.is("in either pan", x.told(0, 3), 3);
        due.is("the other one", x.told(1, 3), 1);
        x.keep();
        x.weight(0, 9);
        x.weigh(0, 4, 0);
        due.is("the third one", x.told(2, 3), 1);
        x.back();
        x.weight(0, 9);
        due.is("0 at first, where another one was ahead of back()", x.told(2, 3), 0);
        x.back();
        x.deal(1);
        due.is("0 at first, dealt", x.told(2, 3), 0);
    }

    private static void kinds() {
        due.term(1, "and of KINDS: 0 WEIGHT; 1 LEAD, 2 SILK, 5 FALSE, under WEIGHT; 3 SCARRED, under LEAD;"
            + " 4 OLD, under SILK (all are WEIGHTS)");
        due.is("kind -1", new WornWeights().weight(-1, 9), Due.BAD);
        due.is("kind 6", new WornWeights().weight(6, 9), Due.BAD);
        int[] kindsAbove = {0b000001, 0b000011, 0b000101, 0b001011, 0b010101, 0b100001};
        for (int kind = 0; kind < 6; kind++) {
            WornWeights x = Due.with(kind, 9);
            x.lay(0, 1, 0);
            due.is("kind", x.told(0, 0), kind);
            for (int asked = 0; asked < 6; asked++) {
                boolean is = (kindsAbove[kind] >> asked & 1) != 0;
                due.is(kind + " as " + asked, x.as(0, asked), is ? 9 : Due.KIND);
                due.is(kind + " in a slot as " + asked, x.ask(0, asked), is ? x.told(0, 6) : Due.KIND);
            }
        }
    }

    private static void shot() {
        due.term(1, "SHOT is 0 at first, 99999 at most");
        WornWeights x = Due.with(5, 100);
        due.is("at first", x.count(4), 0);
        for (int i = 0; i < 100; i++) {
            x.file(0, 0);
            x.shoot(0, 999);
        }
        x.file(0, 0);
        due.is("98 more", x.shoot(0, 98), 98);
        due.is("99998", x.count(4), 99998);
        due.is("one more", x.shoot(0, 1), 1);
        due.is("99999", x.count(4), 99999);
        due.is("one more", x.shoot(0, 1), 1);
        due.is("99999 still", x.count(4), 99999);
        x.file(0, 0);
        due.is("a Monday", x.monday(), 90);
        due.is("99999 still", x.count(4), 99999);
        x.keep();
        x.tell(100 - 10);
        x.tell(99999);
        due.is("of the days told", x.check(1), 0);
    }

    private static void theDay() {
        due.term(1, "THE DAY is 0 at first, 9999 at most");
        WornWeights x = new WornWeights();
        due.is("at first", x.count(5), 0);
        x.days(1);
        due.is("1", x.count(5), 1);
        for (int i = 0; i < 166; i++) {
            x.days(60);
        }
        x.days(37);
        due.is("9998", x.count(5), 9998);
        x.days(1);
        due.is("9999", x.count(5), 9999);
        x.days(1);
        due.is("9999 still", x.count(5), 9999);
        x.days(60);
        due.is("9999 still", x.count(5), 9999);
    }

    /** What a WEIGHT of a KIND, with GRAINS enough, loses at a weighing by a TEXT. */
    private static int loses(int kind, String wear) {
        WornWeights x = Due.with(kind, 999);
        Due.text(x, "wear " + wear);
        return x.told(0, 4);
    }

    private static final String LEAST = "4096*4096*128", MOST = "4096*4096*128-1";

    private static void isLost(int kind, String[] wears, int... losses) {
        for (int i = 0; i < wears.length; i++) {
            due.is("kind " + kind + ", wear " + wears[i], loses(kind, wears[i]), losses[i]);
        }
    }

    private static void weightLoses() {
        due.term(1, "LOSES at a weighing: WEIGHT: what wear gives, held within 0 .. 99 (without a TEXT: 1)");
        due.is("without a text", Due.with(0, 999).told(0, 4), 1);
        isLost(0, new String[] {"0-1", "0", "1", "98", "99", "100", "9999", LEAST, MOST}, 0, 0, 1, 98, 99, 99, 99, 0, 99);
        WornWeights x = Due.with(0, 999);
        Due.text(x, "law 5");
        Due.text(x, "fine 5");
        due.is("with texts of other keys", x.told(0, 4), 1);
    }

    private static void leadLoses() {
        due.term(1, "LEAD: as WEIGHT, and 1.");
        due.is("without a text", Due.with(1, 999).told(0, 4), 2);
        isLost(1, new String[] {"0-1", "0", "1", "98", "99", "100", LEAST, MOST}, 1, 1, 2, 99, 100, 100, 1, 100);
    }

    private static void scarredLoses() {
        due.term(1, "SCARRED: twice as LEAD.");
        due.is("without a text", Due.with(3, 999).told(0, 4), 4);
        isLost(3, new String[] {"0-1", "0", "1", "98", "99", "100", LEAST, MOST}, 2, 2, 4, 198, 200, 200, 2, 200);
    }

    private static void silkLoses() {
        due.term(1, "SILK: half (cut) of as WEIGHT.");
        due.is("without a text", Due.with(2, 999).told(0, 4), 0);
        isLost(2, new String[] {"0-1", "0", "1", "2", "3", "98", "99", "100", LEAST, MOST}, 0, 0, 0, 1, 1, 49, 49, 49, 0, 49);
    }

    private static void oldLoses() {
        due.term(1, "OLD: as SILK, if TIMES is even, else 0.");
        due.is("without a text", Due.with(4, 999).told(0, 4), 0);
        isLost(4, new String[] {"0-1", "0", "1", "2", "3", "99", "100", LEAST, MOST}, 0, 0, 0, 1, 1, 49, 49, 0, 49);
        WornWeights x = Due.with(4, 999);
        Due.text(x, "wear 99");
        for (int times = 0; times < 6; times++) {
            due.is("at a weighing, times " + times, x.told(0, 4), times % 2 == 0 ? 49 : 0);
            due.is("at a fall, times " + times, x.told(0, 5), times % 2 == 0 ? 490 : 0);
            x.weigh(0, 1, 0);
        }
        due.is("three of six", x.told(0, 2), 999 - 3 * 49);
    }

    private static void falseLoses() {
        due.term(1, "FALSE: 0. (No more than GRAINS");
        due.is("without a text", Due.with(5, 999).told(0, 4), 0);
        isLost(5, new String[] {"0-1", "0", "1", "99", "100", MOST}, 0, 0, 0, 0, 0, 0);
        WornWeights x = Due.with(5, 999);
        due.is("at a fall", x.told(0, 5), 0);
    }

    private static void noMoreThanGrains() {
        due.term(1, "(No more than GRAINS, asked last.)");
        int[] atMost = {99, 100, 49, 200, 49, 0};
        for (int kind = 0; kind < 6; kind++) {
            int most = atMost[kind];
            WornWeights x = Due.with(kind, 1);
            Due.text(x, "wear 99");
            for (int grains : new int[] {0, 1, 5, 48, 49, 50, 99, 100, 101, 199, 200, 201}) {
                x.file(0, grains);
                due.is("kind " + kind + " with " + grains, x.told(0, 4), Math.min(most, grains));
            }
        }
        WornWeights y = Due.with(3, 3);
        y.weigh(0, 1, 0);
        due.is("none are left", y.told(0, 2), 0);
        due.is("none are lost", y.told(0, 4), 0);
    }

    private static void losesAtAFall() {
        due.term(1, "LOSES at a fall: 10 times as at a weighing, GRAINS at most.");
        int[] atMost = {10, 20, 0, 40, 0, 0};
        for (int kind = 0; kind < 6; kind++) {
            WornWeights x = Due.with(kind, 1);
            for (int grains : new int[] {0, 1, 9, 10, 11, 19, 20, 21, 39, 40, 41, 999}) {
                x.file(0, grains);
                due.is("kind " + kind + " with " + grains, x.told(0, 5), Math.min(atMost[kind], grains));
            }
        }
        WornWeights y = Due.with(0, 999, 1, 999);
        Due.text(y, "wear 99");
        due.is("990", y.told(0, 5), 990);
        due.is("999 of 1000", y.told(1, 5), 999);
    }

    private static void kindNotNamed() {
        due.term(1, "(A KIND that is not named does as the one above it.)");
        // For a fall no KIND is named: each does as WEIGHT does, ten times what it loses itself.
        int[] wears = {0, 1, 7, 20};
        int[][] falls = {{0, 10, 0, 20, 0, 0}, {10, 20, 0, 40, 0, 0}, {70, 80, 30, 160, 30, 0}, {200, 210, 100, 420, 100, 0}};
        for (int i = 0; i < wears.length; i++) {
            for (int kind = 0; kind < 6; kind++) {
                WornWeights x = Due.with(kind, 999);
                Due.text(x, "wear " + wears[i]);
                due.is("kind " + kind + ", wear " + wears[i], x.told(0, 5), falls[i][kind]);
                due.is("kind " + kind + " fell by " + wears[i], x.fall(0), falls[i][kind]);
                due.is("what is left", x.told(0, 2), 999 - falls[i][kind]);
            }
        }
    }

    private static void worth() {
        due.term(1, "WORTH: WEIGHT: GRAINS. LEAD: as WEIGHT, less 2. SCARRED: as LEAD, less TIMES. SILK: twice as WEIGHT."
            + " OLD: as SILK, and 100. FALSE: 7.");
        int[][] want = {{0, 1, 999}, {-2, -1, 997}, {0, 2, 1998}, {-2, -1, 997}, {100, 102, 2098}, {7, 7, 7}};
        int[] grains = {0, 1, 999};
        for (int kind = 0; kind < 6; kind++) {
            WornWeights x = Due.with(kind, 500);
            for (int i = 0; i < 3; i++) {
                x.file(0, grains[i]);
                due.is("kind " + kind + " with " + grains[i], x.told(0, 6), want[kind][i]);
            }
            x.file(0, 0);
            x.weigh(0, 1, 0);
            x.weigh(0, 1, 0);
            due.is("kind " + kind + ", weighed twice", x.told(0, 6), want[kind][0] - (kind == 3 ? 2 : 0));
        }
    }

    private static void balances() {
        due.term(1, "BALANCES 0 .. 3: ARMS 90 .. 110, both (100 each at first).");
        WornWeights x = Due.with(5, 99, 5, 100);
        for (int i = 0; i < 4; i++) {
            due.is("left at first", x.arm(i, 0, 90), 100);
            due.is("right at first", x.arm(i, 1, 90), 100);
            due.is("left", x.arm(i, 0, 110), 90);
            due.is("right", x.arm(i, 1, 110), 90);
            due.is("89", x.arm(i, 0, 89), Due.BAD);
            due.is("111", x.arm(i, 1, 111), Due.BAD);
            due.is("left is as it was", x.arm(i, 0, 110), 110);
            due.is("right is as it was", x.arm(i, 1, 110), 110);
        }
        due.is("balance -1", x.arm(-1, 0, 100), Due.BAD);
        due.is("balance 4", x.arm(4, 0, 100), Due.BAD);
        due.is("weighed on -1", x.said(-1, 1, 2), Due.BAD);
        due.is("weighed on 4", x.said(4, 1, 2), Due.BAD);
    }

    private static void pull() {
        due.term(1, "A pan GOES DOWN, if its PULL is greater than the other one's.");
        WornWeights x = Due.with(5, 99, 5, 90);
        x.arm(0, 1, 110);
        due.is("99 by 100, 90 by 110", x.said(0, 1, 2), 0);
        x.file(0, 100);
        due.is("one more in the left one", x.said(0, 1, 2), 1);
        x.file(0, 98);
        due.is("one less in the left one", x.said(0, 1, 2), 2);
        x.file(0, 99);
        due.is("the pans changed", x.said(0, 2, 1), 2);
        x.arm(0, 0, 101);
        due.is("101", x.said(0, 1, 2), 1);
        x.arm(0, 0, 99);
        due.is("99", x.said(0, 1, 2), 2);
        x.file(1, 0);
        due.is("no grains against nothing", x.said(0, 2, 0), 0);
        due.is("nothing against no grains", x.said(0, 0, 2), 0);
        WornWeights all = new WornWeights();
        for (int i = 0; i < 10; i++) {
            all.weight(5, 999);
        }
        all.arm(3, 0, 110);
        due.is("the greatest pull", all.weigh(3, 1023, 0), 1);
        due.is("nine at 110 against one at 100", all.said(3, 1022, 1), 1);
    }

    private static void pullOfSeveral() {
        due.term(1, "PULL of a pan: GRAINS of all in it, together, times its ARM.");
        WornWeights x = Due.with(5, 20, 5, 30, 5, 45, 5, 5, 5, 50);
        due.is("20 and 30 against 45 and 5", x.said(0, 0b00011, 0b01100), 0);
        due.is("20 and 30 against 45", x.said(0, 0b00011, 0b00100), 1);
        due.is("20 and 30 against 45, 5 and 50", x.said(0, 0b00011, 0b11100), 2);
        due.is("45 and 5 against 50", x.said(0, 0b01100, 0b10000), 0);
        x.arm(0, 0, 90);
        due.is("50 by 90 against 45 by 100", x.said(0, 0b00011, 0b00100), 0);
        due.is("50 by 90 against 50 by 100", x.said(0, 0b00011, 0b01100), 2);
        due.is("55 by 90 against 50 by 100", x.said(0, 0b11000, 0b00011), 2);
        due.is("75 by 90 against 50 by 100", x.said(0, 0b00110, 0b10000), 1);
        x.file(3, 999);
        due.is("by grains, not by stamps", x.said(0, 0b01000, 0b10111), 1);
    }
}
