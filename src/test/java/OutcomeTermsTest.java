/** 'Terms', part 3: each sentence that names an end, a choice among several or a case by itself. */
public final class OutcomeTermsTest {
    private static final Due due = new Due();

    public static void main(String[] args) {
        nothingIsLost();
        behind();
        lasts();
        canWeigh();
        canWeighNone();
        smallestOrMore();
        smallestOfSeveral();
        gainJustG();
        gainFewest();
        gainOfSeveral();
        poundLowest();
        poundWithout();
        fits();
        falseOneMost();
        falseOneMoreThanAll();
        falseOneBothEmpty();
        falseOneOfSeveral();
        due.end();
    }

    private static void nothingIsLost() {
        due.term(3, "SAID of a WEIGHING: what it would SAY (nothing is lost)");
        WornWeights x = Due.with(0, 10, 3, 10);
        for (int i = 0; i < 5; i++) {
            due.is("alike, again and again", x.said(0, 1, 2), 0);
        }
        due.is("grains", x.count(1), 20);
        due.is("pages", x.count(3), 0);
        due.is("times", x.told(0, 3) + x.told(1, 3), 0);
    }

    private static void behind() {
        due.term(3, "BEHIND n WEIGHINGS of a WEIGHT alone: its GRAINS, if it were weighed n times, one behind the other");
        String[] wears = {"1", "g/7+t", "t*t", "s-g", "99", "0"};
        for (String wear : wears) {
            for (int kind = 0; kind < 6; kind++) {
                WornWeights x = Due.with(kind, 400);
                Due.text(x, "wear " + wear);
                x.file(0, 390);
                x.keep();
                for (int n = 0; n < 12; n++) {
                    int grains = x.told(0, 2);
                    x.back();
                    due.is("behind " + n + " of kind " + kind + " by " + wear, x.behind(0, n), grains);
                    for (int i = 0; i <= n; i++) {
                        x.weigh(0, 1, 0);
                    }
                }
            }
        }
        WornWeights y = Due.with(1, 999);
        due.is("0", y.behind(0, 0), 999);
        due.is("499", y.behind(0, 499), 1);
        due.is("500", y.behind(0, 500), 0);
        due.is("it has lost none", y.told(0, 2), 999);
    }

    private static void lasts() {
        due.term(3, "LASTS for g: how many times it can be weighed so till GRAINS are below g (0: they are now; 999 at most)");
        WornWeights x = Due.with(0, 100, 5, 1, 2, 999, 1, 999, 0, 999);
        due.is("g is one more than grains", x.lasts(0, 101), 0);
        due.is("g is as grains", x.lasts(0, 100), 1);
        due.is("g is one less", x.lasts(0, 99), 2);
        due.is("g 1", x.lasts(0, 1), 100);
        due.is("false for ever", x.lasts(1, 1), 999);
        due.is("false, below now", x.lasts(1, 2), 0);
        due.is("silk for ever", x.lasts(2, 999), 999);
        due.is("lead steps over g", x.lasts(3, 998), 1);
        due.is("lead", x.lasts(3, 997), 2);
        due.is("999 times just so", x.lasts(4, 1), 999);
        due.is("998 times", x.lasts(4, 2), 998);
        x.file(0, 0);
        due.is("no grains", x.lasts(0, 1), 0);
        Due.text(x, "wear t>998");
        x.file(0, 1);
        due.is("it would be the thousandth", x.lasts(0, 1), 999);
        Due.text(x, "wear t=998");
        due.is("the last one that counts", x.lasts(0, 1), 999);
        Due.text(x, "wear t=997");
        due.is("one ahead of that", x.lasts(0, 1), 998);
        due.is("it was not weighed", x.told(0, 3), 0);
    }

    private static void canWeigh() {
        due.term(3, "CAN WEIGH: all pounds 1 .. n, if n of a set is the greatest number so that for each v of 1 .. n"
            + " some WEIGHTS of the set have just v GRAINS");
        int[][] grains = {{1}, {1, 1}, {1, 2}, {1, 3}, {2, 1}, {1, 2, 4}, {1, 2, 5}, {4, 2, 1}, {1, 1, 3, 6}, {1, 1, 3, 7}, {1, 2, 3, 8}, {1, 0, 2},
            {1, 999}, {1, 1, 1, 1, 1, 1, 1, 1, 1, 1}, {10, 9, 8, 7, 6, 5, 4, 3, 2, 1}, {512, 256, 128, 64, 32, 16, 8, 4, 2, 1},
            {999, 256, 128, 64, 32, 16, 8, 4, 2, 1}, {1, 2, 4, 8, 16, 32, 64, 128, 256, 513}};
        int[] want = {1, 2, 3, 1, 3, 7, 3, 7, 11, 5, 6, 3, 1, 10, 55, 1023, 511, 511};
        for (int i = 0; i < grains.length; i++) {
            WornWeights x = new WornWeights();
            for (int g : grains[i]) {
                x.weight(0, 999);
                x.file(x.count(0) - 1, g);
            }
            due.is(java.util.Arrays.toString(grains[i]), x.canWeigh((1 << grains[i].length) - 1), want[i]);
        }
    }

    private static void canWeighNone() {
        due.term(3, "have just v GRAINS together (0: none)");
        WornWeights x = Due.with(0, 1, 0, 2, 0, 3);
        due.is("the empty set", x.canWeigh(0), 0);
        due.is("without a 1", x.canWeigh(6), 0);
        due.is("outside the set none counts", x.canWeigh(5), 1);
        x.file(0, 0);
        due.is("no grains", x.canWeigh(1), 0);
        due.is("no grains, and no 1", x.canWeigh(7), 0);
        due.is("the empty set without weights", new WornWeights().canWeigh(0), 0);
    }

    private static void smallestOrMore() {
        due.term(3, "SMALLEST of n: the set with the fewest WEIGHTS that CAN WEIGH 1 .. n or more");
        WornWeights x = Due.with(0, 1, 0, 1, 0, 2, 0, 3, 0, 999);
        due.is("1", x.smallest(1), 0b00001);
        due.is("2, just so", x.smallest(2), 0b00011);
        due.is("3, just so", x.smallest(3), 0b00101);
        due.is("4, by four in three", x.smallest(4), 0b00111);
        due.is("5, by five or six in three", x.smallest(5), 0b01011);
        due.is("6", x.smallest(6), 0b01101);
        due.is("7", x.smallest(7), 0b01111);
        due.is("8", x.smallest(8), Due.NONE);
        due.is("999", x.smallest(999), Due.NONE);
        WornWeights y = new WornWeights();
        for (int i = 0; i < 10; i++) {
            y.weight(0, 1 << i);
        }
        due.is("all ten", y.smallest(999), 1023);
        due.is("511", y.smallest(511), 511);
        due.is("512", y.smallest(512), 1023);
        x.file(0, 0);
        x.file(1, 0);
        due.is("without a 1", x.smallest(1), Due.NONE);
    }

    private static void smallestOfSeveral() {
        due.term(3, "that CAN WEIGH 1 .. n or more; of several the least as bits");
        WornWeights x = Due.with(0, 2, 0, 1, 0, 1, 0, 2, 0, 1);
        due.is("1: three sets of one", x.smallest(1), 0b00010);
        due.is("2: the first two", x.smallest(2), 0b00011);
        due.is("4: three", x.smallest(4), 0b00111);
        due.is("5: with both of 2", x.smallest(5), 0b01011);
        x.file(1, 0);
        due.is("2 then", x.smallest(2), 0b00101);
        x.file(1, 1);
        x.file(0, 1);
        due.is("fewer are ahead of what is less as bits", x.smallest(3), 0b01001);
    }

    private static void gainJustG() {
        due.term(3, "GAIN of a sale of g: of all sets of WEIGHTS whose STAMPS are together just g");
        WornWeights x = Due.with(0, 5, 0, 7);
        int[] sales = {4, 5, 6, 7, 8, 11, 12, 13};
        int[] sets = {Due.NONE, 1, Due.NONE, 2, Due.NONE, Due.NONE, 3, Due.NONE};
        for (int i = 0; i < sales.length; i++) {
            due.is("a sale of " + sales[i], x.gain(sales[i], 1), sets[i]);
            due.is("a gain of " + sales[i], x.gain(sales[i], 0), sets[i] == Due.NONE ? Due.NONE : 0);
        }
        x.file(0, 4);
        due.is("by stamps, not by grains", x.gain(4, 1), Due.NONE);
        WornWeights all = new WornWeights();
        due.is("without weights", all.gain(1, 0), Due.NONE);
        for (int i = 0; i < 10; i++) {
            all.weight(0, 999);
        }
        due.is("the greatest sale", all.gain(9990, 1), 1023);
        due.is("one less", all.gain(9989, 1), Due.NONE);
        for (int i = 0; i < 10; i++) {
            all.file(i, 0);
        }
        due.is("the greatest gain", all.gain(9990, 0), 9990);
    }

    private static void gainFewest() {
        due.term(3, "the one with the fewest GRAINS together");
        WornWeights x = Due.with(0, 5, 0, 5, 0, 5, 0, 2, 0, 3);
        x.file(1, 3);
        due.is("the set", x.gain(5, 1), 0b00010);
        due.is("how many fewer", x.gain(5, 0), 2);
        x.file(3, 0);
        x.file(4, 2);
        due.is("two of them weigh less", x.gain(5, 1), 0b11000);
        due.is("how many fewer", x.gain(5, 0), 3);
        x.file(2, 0);
        due.is("no grains", x.gain(5, 1), 0b00100);
        due.is("how many fewer: all", x.gain(5, 0), 5);
        due.is("10: the two lightest", x.gain(10, 1), 0b11100);
        due.is("10", x.gain(10, 0), 8);
        x.file(0, 999);
        due.is("20 takes the heavy one too", x.gain(20, 0), 20 - 999 - 3 - 0 - 0 - 2);
    }

    private static void gainOfSeveral() {
        due.term(3, "(of several the least as bits): how many fewer these are than g");
        WornWeights x = Due.with(0, 2, 0, 3, 0, 5, 0, 5);
        due.is("three sets of 5 grains", x.gain(5, 1), 0b0011);
        due.is("none fewer", x.gain(5, 0), 0);
        x.file(0, 3);
        due.is("two sets of 5 grains", x.gain(5, 1), 0b0100);
        due.is("none fewer", x.gain(5, 0), 0);
        due.is("it is one more", x.gain(2, 0), -1);
        x.file(2, 4);
        x.file(3, 4);
        due.is("two sets of 4 grains", x.gain(5, 1), 0b0100);
        x.file(0, 1);
        due.is("three sets of 4 grains", x.gain(5, 1), 0b0011);
        WornWeights heavy = Due.with(0, 1, 0, 999);
        heavy.file(0, 999);
        due.is("far below 0", heavy.gain(1, 0), -998);
    }

    private static void poundLowest() {
        due.term(3, "TRUE POUND: the sum of GRAINS by the sum of STAMPS of all, in lowest terms");
        int[][] stampsAndGrains = {{1, 1}, {999, 999}, {999, 0}, {1, 999}, {999, 1}, {12, 8}, {8, 12}, {7, 5}, {360, 840}};
        int[][] want = {{1, 1}, {1, 1}, {0, 1}, {999, 1}, {1, 999}, {2, 3}, {3, 2}, {5, 7}, {7, 3}};
        for (int i = 0; i < want.length; i++) {
            WornWeights x = Due.with(0, stampsAndGrains[i][0]);
            x.file(0, stampsAndGrains[i][1]);
            due.is("above, case " + i, x.pound(0), want[i][0]);
            due.is("below, case " + i, x.pound(1), want[i][1]);
        }
        WornWeights all = new WornWeights();
        for (int i = 0; i < 10; i++) {
            all.weight(0, 999);
        }
        due.is("above, ten of 999", all.pound(0), 1);
        due.is("below, ten of 999", all.pound(1), 1);
        all.file(9, 998);
        due.is("above, one less", all.pound(0), 9989);
        due.is("below, one less", all.pound(1), 9990);
    }

    private static void poundWithout() {
        due.term(3, "(0 / 1 without)");
        WornWeights x = new WornWeights();
        due.is("above", x.pound(0), 0);
        due.is("below", x.pound(1), 1);
        x.weight(0, 4);
        x.file(0, 0);
        due.is("without grains, above", x.pound(0), 0);
        due.is("without grains, below", x.pound(1), 1);
    }

    private static void fits() {
        due.term(3, "FITS of a PAGE: whether it would SAY so with GRAINS as they are now, and its ARMS");
        WornWeights x = Due.with(5, 100, 5, 100);
        x.arm(1, 0, 110);
        x.weigh(0, 1, 2);
        x.weigh(1, 1, 2);
        int[] grains = {99, 100, 101, 109, 110, 111};
        int[] first = {0, 1, 0, 0, 0, 0};
        int[] second = {1, 1, 1, 1, 0, 0};
        for (int i = 0; i < grains.length; i++) {
            x.file(1, grains[i]);
            due.is("alike, now against " + grains[i], x.page(0, 3), first[i]);
            due.is("left by 110, now against " + grains[i], x.page(1, 3), second[i]);
            x.arm(0, 1, 90 + i);
            x.arm(1, 0, 95 + i);
            due.is("alike, other arms since", x.page(0, 3), first[i]);
            due.is("left, other arms since", x.page(1, 3), second[i]);
        }
        due.is("what it says stays", x.page(0, 2), 0);
    }

    /**
     * WEIGHTS 0 and 1 had no GRAINS when they were weighed beside 2 against 3, and have some now:
     * so many PAGES FIT without 0, and so many without 1, and none with all.
     */
    private static WornWeights twoFalseOnes(int without0, int without1) {
        WornWeights x = Due.with(5, 5, 5, 5, 5, 10, 5, 10);
        x.file(0, 0);
        x.file(1, 0);
        for (int i = 0; i < without0; i++) {
            x.weigh(0, 0b0101, 0b1000);
        }
        for (int i = 0; i < without1; i++) {
            x.weigh(0, 0b0110, 0b1000);
        }
        x.file(0, 5);
        x.file(1, 5);
        return x;
    }

    private static void falseOneMost() {
        due.term(3, "FALSE ONE: the WEIGHT without which (left out of all sets; both may be empty then) most PAGES FIT");
        due.is("no pages", twoFalseOnes(0, 0).falseOne(), Due.NONE);
        due.is("without weights", new WornWeights().falseOne(), Due.NONE);
        due.is("0 alone", twoFalseOnes(1, 0).falseOne(), 0);
        due.is("1 alone", twoFalseOnes(0, 1).falseOne(), 1);
        due.is("1 of more pages", twoFalseOnes(1, 2).falseOne(), 1);
        due.is("0 of more pages", twoFalseOnes(2, 1).falseOne(), 0);
        due.is("1 of many more", twoFalseOnes(9, 11).falseOne(), 1);
        due.is("0 of many more", twoFalseOnes(11, 9).falseOne(), 0);
        due.is("the first page went", twoFalseOnes(10, 11).falseOne(), 1);
        WornWeights right = Due.with(5, 5, 5, 10, 5, 10);
        right.file(0, 0);
        right.weigh(0, 2, 5);
        right.file(0, 5);
        due.is("left out of the right set too", right.falseOne(), 0);
    }

    private static void falseOneMoreThanAll() {
        due.term(3, "most PAGES FIT, and more than with all");
        for (int fit = 0; fit < 5; fit++) {
            WornWeights x = twoFalseOnes(3, 0);
            for (int i = 0; i < fit; i++) {
                x.weigh(0, 1, 0);
            }
            due.is("3 without it, " + fit + " with all", x.falseOne(), fit < 3 ? 0 : Due.NONE);
        }
        WornWeights y = twoFalseOnes(3, 0);
        y.file(0, 0);
        due.is("all fit with all", y.falseOne(), Due.NONE);
    }

    private static void falseOneBothEmpty() {
        due.term(3, "(left out of all sets; both may be empty then)");
        WornWeights x = Due.with(5, 5);
        x.file(0, 0);
        x.weigh(0, 1, 0);
        x.file(0, 5);
        due.is("nothing in the pans is alike", x.falseOne(), 0);
        WornWeights y = Due.with(5, 5);
        y.file(0, 0);
        y.weigh(0, 0, 1);
        y.file(0, 5);
        due.is("nothing in the pans is alike", y.falseOne(), 0);
        WornWeights z = Due.with(5, 5);
        z.weigh(0, 1, 0);
        z.file(0, 0);
        due.is("nothing in the pans is not left", z.falseOne(), Due.NONE);
    }

    private static void falseOneOfSeveral() {
        due.term(3, "and more than with all; of several the least");
        due.is("1 each", twoFalseOnes(1, 1).falseOne(), 0);
        due.is("10 each", twoFalseOnes(10, 10).falseOne(), 0);
        WornWeights x = Due.with(5, 10, 5, 10, 5, 5, 5, 5);
        x.file(2, 0);
        x.file(3, 0);
        x.weigh(0, 0b0101, 0b0010);
        x.weigh(0, 0b1001, 0b0010);
        x.file(2, 7);
        x.file(3, 6);
        due.is("2 and 3", x.falseOne(), 2);
        x.file(2, 0);
        due.is("one page fits with all, both without 3", x.falseOne(), 3);
    }
}
