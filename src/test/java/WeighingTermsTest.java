/** 'Terms', part 2: each sentence that names an end, an order or a case by itself. */
public final class WeighingTermsTest {
    private static final Due due = new Due();

    public static void main(String[] args) {
        twoSets();
        says();
        allInItLose();
        timesOneMore();
        pageGetsArms();
        twentyPages();
        fallLosesSo();
        shotGiven();
        weightTakesNoLess();
        mondayBelow();
        mondayTillAsMany();
        mondayHeld();
        mondayWithoutText();
        dayFalls();
        dayByNumbers();
        mondayBySeven();
        mondayBehindFalls();
        zAtFirst();
        drawWraps();
        weightsDrawn();
        due.end();
    }

    private static void twoSets() {
        due.term(2, "A WEIGHING on a BALANCE of two sets of WEIGHTS, left and right (no WEIGHT in both, not both empty)");
        WornWeights x = Due.with(0, 10, 0, 10, 0, 10);
        due.is("one in both", x.weigh(0, 1, 1), Due.NO);
        due.is("one of several in both", x.weigh(0, 3, 6), Due.NO);
        due.is("all in both", x.weigh(0, 7, 7), Due.NO);
        due.is("both empty", x.weigh(0, 0, 0), Due.NO);
        due.is("nothing is lost", x.count(1), 30);
        due.is("no page", x.count(3), 0);
        due.is("no times", x.told(1, 3), 0);
        due.is("the left one empty", x.weigh(0, 0, 7), 2);
        due.is("the right one empty", x.weigh(0, 7, 0), 1);
        due.is("both empty, without weights", new WornWeights().weigh(0, 0, 0), Due.NO);
    }

    private static void says() {
        due.term(2, "it SAYS 0 both alike, 1 left GOES DOWN, 2 right");
        WornWeights x = Due.with(5, 10, 5, 9, 5, 1);
        due.is("alike", x.weigh(0, 1, 6), 0);
        due.is("left by one grain", x.weigh(0, 1, 2), 1);
        due.is("right by one grain", x.weigh(0, 2, 1), 2);
        for (int i = 0; i < 3; i++) {
            due.is("so on its page", x.page(i, 2), i);
        }
    }

    private static void allInItLose() {
        due.term(2, "Then all in it lose what they LOSE at a weighing");
        WornWeights x = Due.with(1, 10, 5, 9, 0, 10, 0, 1);
        due.is("said ahead of the loss", x.weigh(0, 1, 2), 1);
        due.is("lead in the left pan", x.told(0, 2), 8);
        due.is("its page no longer fits", x.page(0, 3), 0);
        due.is("not in it", x.told(2, 2), 10);
        x.weigh(0, 2, 4);
        due.is("in the right pan", x.told(2, 2), 9);
        x.weigh(0, 8, 0);
        due.is("the last grain", x.told(3, 2), 0);
        due.is("none is left to lose", x.weigh(0, 8, 0), 0);
        due.is("none is left", x.told(3, 2), 0);
    }

    private static void timesOneMore() {
        due.term(2, "TIMES of each is 1 more");
        WornWeights x = Due.with(0, 100, 4, 100, 5, 100);
        Due.text(x, "wear 2+t*10");
        x.weigh(0, 1, 6);
        due.is("the loss is by the times ahead of it", x.told(0, 2), 98);
        due.is("old, at 0 times", x.told(1, 2), 99);
        x.weigh(0, 1, 6);
        due.is("the loss is by the times ahead of it", x.told(0, 2), 98 - 12);
        due.is("old, at 1 time", x.told(1, 2), 99);
        x.weigh(0, 1, 6);
        due.is("the loss is by the times ahead of it", x.told(0, 2), 86 - 22);
        due.is("old, at 2 times", x.told(1, 2), 99 - 11);
        for (int i = 0; i < 3; i++) {
            due.is("each, though it loses none", x.told(i, 3), 3);
        }
    }

    private static void pageGetsArms() {
        due.term(2, "THE BOOK gets a PAGE: the sets, the BALANCE's ARMS, what it SAYS");
        WornWeights x = Due.with(5, 100, 5, 100);
        x.arm(2, 0, 110);
        x.weigh(2, 1, 2);
        x.weigh(1, 1, 2);
        x.arm(2, 0, 90);
        x.weigh(2, 1, 2);
        x.arm(2, 0, 100);
        int[] says = {1, 0, 2};
        for (int i = 0; i < 3; i++) {
            due.is("left", x.page(i, 0), 1);
            due.is("right", x.page(i, 1), 2);
            due.is("says", x.page(i, 2), says[i]);
            due.is("by the arms that were then", x.page(i, 3), 1);
        }
        x.said(0, 1, 2);
        due.is("said gives none", x.count(3), 3);
    }

    private static void twentyPages() {
        due.term(2, "(of 20 PAGES at most the first goes, if there are more)");
        WornWeights x = Due.with(5, 1, 5, 2, 5, 4, 5, 8, 5, 16);
        for (int i = 1; i <= 19; i++) {
            x.weigh(0, i, 0);
        }
        due.is("19", x.count(3), 19);
        x.weigh(0, 20, 0);
        due.is("20", x.count(3), 20);
        due.is("the first is there", x.page(0, 0), 1);
        for (int more = 21; more <= 31; more++) {
            x.weigh(more % 4, more, 0);
            due.is("20 still", x.count(3), 20);
            for (int i = 0; i < 20; i += 19) {
                due.is("page " + i + " behind " + more, x.page(i, 0), more - 19 + i);
                due.is("it fits", x.page(i, 3), 1);
            }
            due.is("no page 20", x.page(20, 0), Due.NONE);
        }
        x.weigh(0, 0, 0);
        due.is("a refused one puts none out", x.page(0, 0), 12);
    }

    private static void fallLosesSo() {
        due.term(2, "A FALL of a WEIGHT: it loses so.");
        WornWeights x = Due.with(0, 25, 1, 25);
        due.is("10", x.fall(0), 10);
        due.is("10", x.fall(0), 10);
        due.is("the 5 that are left", x.fall(0), 5);
        due.is("none is left", x.fall(0), 0);
        due.is("0", x.told(0, 2), 0);
        due.is("the other one is as it was", x.told(1, 2), 25);
        due.is("no page", x.count(3), 0);
    }

    private static void shotGiven() {
        due.term(2, "SHOT given to a WEIGHT: GRAINS are more, 999 at most");
        WornWeights x = Due.with(0, 997);
        due.is("one", x.shoot(0, 1), 1);
        due.is("998", x.told(0, 2), 998);
        due.is("one of two", x.shoot(0, 2), 1);
        due.is("999", x.told(0, 2), 999);
        due.is("none of one", x.shoot(0, 1), 0);
        due.is("none of 999", x.shoot(0, 999), 0);
        due.is("as many more as it took", x.count(4), 2);
        x.file(0, 0);
        due.is("all", x.shoot(0, 999), 999);
        due.is("as many more as it took", x.count(4), 1001);
    }

    private static void weightTakesNoLess() {
        due.term(2, "SHOT (99999 at most; the WEIGHT takes no less by that) is as many more as it took");
        WornWeights x = Due.with(5, 999);
        for (int i = 0; i < 100; i++) {
            x.file(0, 0);
            x.shoot(0, 999);
        }
        x.file(0, 0);
        due.is("it takes 700", x.shoot(0, 700), 700);
        due.is("it has 700", x.told(0, 2), 700);
        due.is("99 of these are told", x.count(4), 99999);
        due.is("it takes 200 more", x.monday(), 200);
        due.is("it has 900", x.told(0, 2), 900);
        x.file(0, 0);
        x.days(1);
        due.is("on a day too", x.told(0, 2), 900);
        due.is("99999", x.count(4), 99999);
    }

    private static void mondayBelow() {
        due.term(2, "A MONDAY: each WEIGHT by numbers whose GRAINS are below what law gives");
        WornWeights x = Due.with(5, 100, 5, 100, 5, 100, 5, 100, 5, 100);
        int[] grains = {0, 89, 90, 91, 999};
        int[] behind = {90, 90, 90, 91, 999};
        for (int i = 0; i < 5; i++) {
            x.file(i, grains[i]);
        }
        due.is("shot", x.monday(), 91);
        for (int i = 0; i < 5; i++) {
            due.is("grains " + grains[i], x.told(i, 2), behind[i]);
        }
        due.is("shot in all", x.count(4), 91);
        due.is("once more", x.monday(), 0);
        due.is("without weights", new WornWeights().monday(), 0);
    }

    private static void mondayTillAsMany() {
        due.term(2, "gets SHOT till it has as many.");
        WornWeights x = Due.with(0, 20, 1, 40, 5, 60);
        Due.text(x, "law s*2-5");
        due.is("15, 35 and 55", x.monday(), 15 + 35 + 55);
        int[] grains = {35, 75, 115};
        for (int i = 0; i < 3; i++) {
            due.is("as many as law gives for " + i, x.told(i, 2), grains[i]);
            due.is("its stamp stays", x.told(i, 1), 20 + 20 * i);
            due.is("no weighing", x.told(i, 3), 0);
        }
        due.is("shot", x.count(4), 105);
        due.is("they have as many", x.monday(), 0);
        due.is("shot still", x.count(4), 105);
        x.file(1, 74);
        due.is("one is missing", x.monday(), 1);
        due.is("as many again", x.told(1, 2), 75);
    }

    /** What a MONDAY gives one WEIGHT without GRAINS by a law. */
    private static int byLaw(String law) {
        WornWeights x = Due.with(5, 10);
        Due.text(x, "law " + law);
        x.file(0, 0);
        return x.monday();
    }

    private static void mondayHeld() {
        due.term(2, "held within 0 .. 999");
        due.is("0 - 1", byLaw("0-1"), 0);
        due.is("0", byLaw("0"), 0);
        due.is("1", byLaw("1"), 1);
        due.is("998", byLaw("998"), 998);
        due.is("999", byLaw("999"), 999);
        due.is("1000", byLaw("1000"), 999);
        due.is("the greatest", byLaw("4096*4096*128-1"), 999);
        due.is("the least", byLaw("4096*4096*128"), 0);
    }

    private static void mondayWithoutText() {
        due.term(2, "(without a TEXT: STAMP less STAMP / 10)");
        int[] stamps = {1, 9, 10, 11, 19, 20, 99, 100, 990, 999};
        int[] laws = {1, 9, 9, 10, 18, 18, 90, 90, 891, 900};
        for (int i = 0; i < stamps.length; i++) {
            WornWeights x = Due.with(5, stamps[i]);
            Due.text(x, "wear 5");
            Due.text(x, "fine 5");
            x.file(0, 0);
            due.is("stamp " + stamps[i], x.monday(), laws[i]);
        }
    }

    private static void dayFalls() {
        due.term(2, "if the rest of one by 100 is below 5, it FALLS");
        for (int rest = 0; rest < 100; rest++) {
            WornWeights x = Due.with(0, 100);
            x.days(1);
            x.seed(Due.seedFor(100, rest));
            due.is("falls, rest " + rest, x.days(1), rest < 5 ? 1 : 0);
            due.is("grains, rest " + rest, x.told(0, 2), rest < 5 ? x.told(0, 1) - 10 : 100);
        }
        WornWeights y = Due.with(5, 100, 0, 100);
        y.file(1, 0);
        y.seed(Due.seedFor(100, 0, 100, 0));
        due.is("they fall, though they lose none", y.days(1), 2);
    }

    private static void dayByNumbers() {
        due.term(2, "A DAY: draws for WEIGHTS by numbers");
        for (int falling = 0; falling < 2; falling++) {
            WornWeights x = Due.with(0, 100, 0, 100);
            x.seed(Due.seedFor(100, falling == 0 ? 4 : 5, 100, falling == 1 ? 4 : 5));
            x.days(1);
            due.is("the first", x.told(0, 2), falling == 0 ? 90 : 100);
            due.is("the second", x.told(1, 2), falling == 1 ? 90 : 100);
        }
        WornWeights none = new WornWeights();
        due.is("without weights no falls", none.days(60), 0);
        due.is("without weights no draws", none.count(9), 1);
        due.is("without weights they are days still", none.count(5), 60);
    }

    private static void mondayBySeven() {
        due.term(2, "if THE DAY's rest by 7 is 0, then a MONDAY; THE DAY is 1 more");
        WornWeights x = Due.with(5, 100);
        for (int day = 0; day < 30; day++) {
            x.file(0, 0);
            x.days(1);
            due.is("day " + day, x.told(0, 2), day % 7 == 0 ? 90 : 0);
            due.is("one more", x.count(5), day + 1);
        }
        x.file(0, 0);
        x.monday();
        due.is("a Monday by itself is no day", x.count(5), 30);
    }

    private static void mondayBehindFalls() {
        due.term(2, "it FALLS; if THE DAY's rest by 7 is 0, then a MONDAY");
        WornWeights x = Due.with(0, 100);
        Due.text(x, "law 95+d");
        x.file(0, 95);
        x.seed(Due.seedFor(100, 4));
        due.is("it fell", x.days(1), 1);
        due.is("and was made right, by the day as it was", x.told(0, 2), 95);
        due.is("shot", x.count(4), 10);
        due.is("the day is more then", x.monday(), 1);
    }

    private static void zAtFirst() {
        due.term(2, "z is told (1 at first)");
        WornWeights x = new WornWeights();
        due.is("at first", x.count(9), 1);
        due.is("at first", x.seed(-5), 1);
        due.is("told", x.count(9), -5);
    }

    private static void drawWraps() {
        due.term(2, "A draw: z becomes z * 1103515245 + 12345 (an int); it gives z >>> 8");
        int[] seeds = {0, 1, -1, Integer.MAX_VALUE, Integer.MIN_VALUE, 65536, -65536};
        for (int seed : seeds) {
            WornWeights x = Due.with(5, 10);
            x.seed(seed);
            x.days(1);
            due.is("z behind " + seed, x.count(9), (int) (seed * 1103515245L + 12345L));
        }
        // The first z below 0 that is drawn: cut by >> it would give a number below 0, and a fall.
        int seed = 1;
        while (seed * 1103515245 + 12345 >= 0 || ((seed * 1103515245 + 12345) >>> 8) % 100 < 5) {
            seed++;
        }
        WornWeights y = Due.with(0, 100);
        y.seed(seed);
        due.is("no fall by a z below 0", y.days(1), 0);
        y.seed(seed);
        due.is("dealt by a z below 0", y.deal(1), 1);
        due.is("its kind", y.told(1, 0), ((seed * 1103515245 + 12345) >>> 8) % 6);
    }

    private static void weightsDrawn() {
        due.term(2, "WEIGHTS that are drawn: KIND the rest of a draw by 6, STAMP 1 and that of one more by 400");
        int[] rests = {0, 1, 398, 399};
        for (int kind = 0; kind < 6; kind++) {
            for (int rest : rests) {
                WornWeights x = new WornWeights();
                x.seed(Due.seedFor(6, kind, 400, rest));
                x.deal(1);
                due.is("kind", x.told(0, 0), kind);
                due.is("stamp", x.told(0, 1), 1 + rest);
                due.is("grains", x.told(0, 2), 1 + rest);
                due.is("times", x.told(0, 3), 0);
            }
        }
    }
}
