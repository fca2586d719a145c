/** Promises 17 to 24. */
public final class OutcomesTest {
    private static final Due due = new Due();

    public static void main(String[] args) {
        behind();
        lasts();
        canWeigh();
        smallest();
        gain();
        pound();
        falseOne();
        fine();
        due.end();
    }

    private static void behind() {
        due.promise(17, "BEHIND n (0 .. 500) WEIGHINGS of a WEIGHT alone. BAD.");
        WornWeights x = Due.with(0, 100, 1, 999, 3, 30, 4, 100, 5, 9);
        due.is("P17 bad", x.behind(0, -1), Due.BAD);
        due.is("P17 bad", x.behind(0, 501), Due.BAD);
        due.is("P17 bad", x.behind(5, 1), Due.BAD);
        due.is("P17 bad", x.behind(-1, 1), Due.BAD);
        due.is("P17 0", x.behind(0, 0), 100);
        due.is("P17 weight", x.behind(0, 99), 1);
        due.is("P17 weight", x.behind(0, 500), 0);
        due.is("P17 lead", x.behind(1, 499), 1);
        due.is("P17 lead", x.behind(1, 500), 0);
        due.is("P17 scarred", x.behind(2, 7), 2);
        due.is("P17 scarred", x.behind(2, 8), 0);
        due.is("P17 false", x.behind(4, 500), 9);
        Due.text(x, "wear 6 + t");
        due.is("P17 old, at even times alone", x.behind(3, 1), 97);
        due.is("P17 old", x.behind(3, 2), 97);
        due.is("P17 old", x.behind(3, 3), 93);
        x.weigh(0, 8, 0);
        due.is("P17 old, once weighed", x.behind(3, 1), 97);
        due.is("P17 old, once weighed", x.behind(3, 2), 93);
        Due.text(x, "wear g / 10");
        due.is("P17 by its grains then", x.behind(0, 3), 100 - 10 - 9 - 8);
        Due.text(x, "wear s / 20");
        due.is("P17 by its stamp", x.behind(0, 3), 100 - 15);
        due.is("P17 nothing is lost", x.told(0, 2), 100);
        due.is("P17 nothing is lost", x.told(0, 3), 0);
    }

    private static void lasts() {
        due.promise(18, "LASTS for g (1 .. 999). BAD.");
        WornWeights x = Due.with(0, 999, 1, 999, 5, 10);
        due.is("P18 bad", x.lasts(0, 0), Due.BAD);
        due.is("P18 bad", x.lasts(0, 1000), Due.BAD);
        due.is("P18 bad", x.lasts(3, 5), Due.BAD);
        due.is("P18 bad", x.lasts(-1, 5), Due.BAD);
        due.is("P18 1", x.lasts(0, 999), 1);
        due.is("P18 all", x.lasts(0, 1), 999);
        due.is("P18 all", x.lasts(0, 2), 998);
        due.is("P18 lead", x.lasts(1, 1), 500);
        due.is("P18 false", x.lasts(2, 10), 999);
        due.is("P18 below now", x.lasts(2, 11), 0);
        due.is("P18 nothing is lost", x.count(1), 999 + 999 + 10);
    }

    private static void canWeigh() {
        due.promise(19, "CAN WEIGH of a set. BAD.");
        WornWeights x = Due.with(0, 4, 0, 1, 0, 2, 0, 9, 0, 16, 0, 1);
        due.is("P19 bad", x.canWeigh(64), Due.BAD);
        due.is("P19 bad", x.canWeigh(-1), Due.BAD);
        due.is("P19 bad", x.canWeigh(Integer.MIN_VALUE), Due.BAD);
        due.is("P19 empty", x.canWeigh(0), 0);
        due.is("P19 1", x.canWeigh(2), 1);
        due.is("P19 2 alone", x.canWeigh(4), 0);
        due.is("P19 1 2 4", x.canWeigh(7), 7);
        due.is("P19 1 2 4 9", x.canWeigh(15), 7);
        due.is("P19 1 1 2 4 9", x.canWeigh(47), 17);
        due.is("P19 all", x.canWeigh(63), 33);
        x.file(1, 0);
        due.is("P19 with 0 grains", x.canWeigh(39), 7);
        due.is("P19 with 0 grains", x.canWeigh(2), 0);
        due.is("P19 by grains, not by stamps", x.canWeigh(7), 0);
    }

    private static void smallest() {
        due.promise(20, "SMALLEST of n (1 .. 999), as a set. BAD; NONE: there is none.");
        WornWeights x = Due.with(0, 2, 0, 1, 0, 3, 0, 1, 0, 2, 0, 4);
        due.is("P20 bad", x.smallest(0), Due.BAD);
        due.is("P20 bad", x.smallest(1000), Due.BAD);
        due.is("P20 1", x.smallest(1), 2);
        due.is("P20 2", x.smallest(2), 3);
        due.is("P20 3", x.smallest(3), 3);
        due.is("P20 4", x.smallest(4), 7);
        due.is("P20 7", x.smallest(7), 35);
        due.is("P20 13", x.smallest(13), 63);
        due.is("P20 14", x.smallest(14), Due.NONE);
        due.is("P20 999", x.smallest(999), Due.NONE);
        due.is("P20 without weights", new WornWeights().smallest(1), Due.NONE);
        due.is("P20 the first alone", Due.with(0, 1).smallest(1), 1);
        WornWeights y = new WornWeights();
        for (int i = 0; i < 10; i++) {
            y.weight(0, i == 9 ? 489 : 1 << i);
        }
        due.is("P20 all ten", y.smallest(999), 1023);
    }

    private static void gain() {
        due.promise(21, "GAIN of a sale of g (1 .. 9990): what 0 how many grains, 1 the set. BAD; NONE: no set has these STAMPS.");
        WornWeights x = Due.with(0, 5, 0, 3, 0, 2, 0, 5);
        due.is("P21 bad", x.gain(0, 0), Due.BAD);
        due.is("P21 bad", x.gain(9991, 0), Due.BAD);
        due.is("P21 bad", x.gain(5, 2), Due.BAD);
        due.is("P21 bad", x.gain(5, -1), Due.BAD);
        due.is("P21 none", x.gain(1, 0), Due.NONE);
        due.is("P21 none", x.gain(9990, 1), Due.NONE);
        due.is("P21 the least of several", x.gain(5, 1), 1);
        due.is("P21 nothing", x.gain(5, 0), 0);
        x.file(3, 4);
        due.is("P21 the lightest", x.gain(5, 1), 8);
        due.is("P21 gain", x.gain(5, 0), 1);
        x.file(1, 1);
        due.is("P21 the lightest", x.gain(5, 1), 6);
        due.is("P21 gain", x.gain(5, 0), 2);
        x.file(0, 100);
        due.is("P21 a loss", x.gain(15, 0), 15 - 107);
        due.is("P21 all", x.gain(15, 1), 15);
    }

    private static void pound() {
        due.promise(22, "TRUE POUND: above (part 0), below the line (1). BAD.");
        WornWeights x = new WornWeights();
        due.is("P22 without", x.pound(0), 0);
        due.is("P22 without", x.pound(1), 1);
        x.weight(0, 12);
        due.is("P22 1", x.pound(0), 1);
        due.is("P22 1", x.pound(1), 1);
        x.weight(0, 8);
        x.file(1, 4);
        due.is("P22 4/5", x.pound(0), 4);
        due.is("P22 4/5", x.pound(1), 5);
        x.file(0, 0);
        x.file(1, 0);
        due.is("P22 no grains", x.pound(0), 0);
        due.is("P22 no grains", x.pound(1), 1);
        x.file(0, 50);
        due.is("P22 above 1", x.pound(0), 5);
        due.is("P22 above 1", x.pound(1), 2);
        due.is("P22 bad", x.pound(2), Due.BAD);
        due.is("P22 bad", x.pound(-1), Due.BAD);
    }

    private static void falseOne() {
        due.promise(23, "FALSE ONE. NONE: there is none.");
        WornWeights x = Due.with(5, 10, 5, 10, 5, 10, 5, 10);
        due.is("P23 without pages", x.falseOne(), Due.NONE);
        x.weigh(0, 1, 2);
        x.weigh(0, 3, 12);
        due.is("P23 all fit", x.falseOne(), Due.NONE);
        x.file(3, 15);
        due.is("P23 1 of 2 fits, no other way fits more", x.falseOne(), Due.NONE);
        x.weigh(0, 8, 1);
        due.is("P23 it was weighed as it is", x.page(2, 3), 1);
        WornWeights y = Due.with(5, 10, 5, 10, 5, 20, 5, 20);
        y.weigh(0, 3, 4);
        y.weigh(0, 5, 10);
        y.file(1, 30);
        due.is("P23 without 3 the second page fits", y.falseOne(), 3);
        WornWeights z = Due.with(5, 10, 5, 10, 5, 10);
        z.file(1, 20);
        z.weigh(0, 1, 2);
        z.weigh(0, 4, 2);
        z.weigh(0, 1, 4);
        z.file(1, 5);
        due.is("P23 one fits", z.page(2, 3), 1);
        due.is("P23 less one fits no more", z.falseOne(), Due.NONE);
        bothMayBeEmpty();
        leastOfSeveral();
    }

    private static void bothMayBeEmpty() {
        WornWeights x = Due.with(5, 10, 5, 10);
        x.file(1, 0);
        x.weigh(0, 2, 0);
        x.file(1, 5);
        due.is("P23 says 0 with nothing in it", x.falseOne(), 1);
        x.file(1, 0);
        due.is("P23 no more than with all", x.falseOne(), Due.NONE);
    }

    private static void leastOfSeveral() {
        WornWeights x = Due.with(5, 10, 5, 10, 5, 20);
        x.weigh(0, 3, 4);
        x.file(2, 10);
        due.is("P23 without 0 or 1 it fits", x.falseOne(), 0);
        x.file(0, 9);
        due.is("P23 without 0 alone it fits", x.falseOne(), 0);
        x.file(0, 10);
        x.file(1, 9);
        due.is("P23 without 1 alone it fits", x.falseOne(), 1);
    }

    private static void fine() {
        due.promise(24, "What fine gives for a WEIGHT. BAD.");
        WornWeights x = Due.with(0, 100, 1, 50);
        due.is("P24 bad", x.fine(2), Due.BAD);
        due.is("P24 bad", x.fine(-1), Due.BAD);
        due.is("P24 nothing", x.fine(0), 0);
        x.file(0, 70);
        x.file(1, 60);
        due.is("P24 missing", x.fine(0), 30);
        due.is("P24 0 at least", x.fine(1), 0);
        x.weigh(0, 1, 2);
        due.is("P24 text", Due.text(x, "fine l * 10 + t"), 0);
        due.is("P24 by text", x.fine(0), 311);
        due.is("P24 by text, below 0", x.fine(1), -79);
        Due.text(x, "fine 9999 * 9999 * l");
        due.is("P24 not held", x.fine(1), 9999 * 9999 * -8);
    }
}
