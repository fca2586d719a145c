/** Promises 10 to 16. */
public final class WeighingsTest {
    private static final Due due = new Due();

    public static void main(String[] args) {
        weigh();
        said();
        fall();
        shoot();
        monday();
        days();
        page();
        due.end();
    }

    private static void refusals(String call, WornWeights x, boolean weigh) {
        int[][] bad = {{-1, 1, 2}, {4, 1, 2}, {0, -1, 1}, {0, 1, -1}, {0, 4, 1}, {0, 1, 4}, {4, 1, 1}, {0, 8, 8},
            {0, Integer.MIN_VALUE, 0}, {0, 0, Integer.MAX_VALUE}};
        int[][] no = {{0, 1, 1}, {0, 3, 2}, {0, 0, 0}};
        for (int[] b : bad) {
            due.is(call + " BAD", weigh ? x.weigh(b[0], b[1], b[2]) : x.said(b[0], b[1], b[2]), Due.BAD);
        }
        for (int[] n : no) {
            due.is(call + " NO", weigh ? x.weigh(n[0], n[1], n[2]) : x.said(n[0], n[1], n[2]), Due.NO);
        }
        due.is(call + " refused, nothing is lost", x.count(1), 180);
        due.is(call + " refused, no page", x.count(3), 0);
    }

    private static void weigh() {
        due.promise(10, "A WEIGHING: what it SAYS. BAD: balance, a set with one that is not there;"
            + " NO: one is in both, or both are empty.");
        WornWeights x = Due.with(0, 100, 1, 80);
        refusals("P10", x, true);
        due.is("P10 left", x.weigh(0, 1, 2), 1);
        due.is("P10 lost", x.told(0, 2), 99);
        due.is("P10 lost", x.told(1, 2), 78);
        due.is("P10 times", x.told(0, 3), 1);
        due.is("P10 right", x.weigh(0, 2, 1), 2);
        due.is("P10 right pan empty", x.weigh(0, 2, 0), 1);
        due.is("P10 not weighed", x.told(0, 2), 98);
        due.is("P10 left pan empty", x.weigh(0, 0, 2), 2);
        due.is("P10 times", x.told(1, 3), 4);
        x.file(0, 0);
        due.is("P10 no grains, both alike", x.weigh(0, 1, 0), 0);
        due.is("P10 no grains to lose", x.told(0, 2), 0);
        WornWeights y = Due.with(5, 100, 5, 110);
        y.arm(3, 0, 110);
        due.is("P10 arms", y.weigh(3, 1, 2), 0);
        due.is("P10 arms", y.weigh(3, 2, 1), 1);
        bookIsFull();
    }

    private static void bookIsFull() {
        WornWeights x = Due.with(5, 100, 5, 50);
        for (int i = 0; i < 20; i++) {
            x.weigh(0, 1, i == 1 ? 2 : 0);
        }
        due.is("P10 20 pages", x.count(3), 20);
        due.is("P10 oldest", x.page(0, 1), 0);
        x.weigh(0, 0, 2);
        due.is("P10 20 pages still", x.count(3), 20);
        due.is("P10 the first went", x.page(0, 1), 2);
        due.is("P10 the last came", x.page(19, 1), 2);
        due.is("P10 the last came", x.page(19, 0), 0);
        due.is("P10 the one ahead of it", x.page(18, 0), 1);
        due.is("P10 none behind", x.page(20, 0), Due.NONE);
    }

    private static void said() {
        due.promise(11, "SAID of a WEIGHING. BAD; NO: likewise.");
        WornWeights x = Due.with(0, 100, 1, 80);
        refusals("P11", x, false);
        due.is("P11 left", x.said(0, 1, 2), 1);
        due.is("P11 right", x.said(0, 2, 1), 2);
        due.is("P11 right", x.said(0, 0, 3), 2);
        x.file(1, 100);
        due.is("P11 alike", x.said(0, 1, 2), 0);
        due.is("P11 nothing is lost", x.count(1), 200);
        due.is("P11 no times", x.told(0, 3), 0);
        due.is("P11 no page", x.count(3), 0);
    }

    private static void fall() {
        due.promise(12, "A WEIGHT FALLS: how many GRAINS it lost. BAD.");
        WornWeights x = Due.with(0, 100, 3, 100, 5, 100, 2, 100);
        due.is("P12 bad", x.fall(4), Due.BAD);
        due.is("P12 bad", x.fall(-1), Due.BAD);
        due.is("P12 lost", x.fall(0), 10);
        due.is("P12 lost", x.fall(1), 40);
        due.is("P12 false", x.fall(2), 0);
        due.is("P12 silk", x.fall(3), 0);
        due.is("P12 times stay", x.told(0, 3), 0);
        due.is("P12 lost", x.fall(1), 40);
        due.is("P12 the rest", x.fall(1), 20);
        due.is("P12 none left", x.fall(1), 0);
    }

    private static void shoot() {
        due.promise(13, "n (1 .. 999) grains of SHOT to a WEIGHT: how many it took. BAD.");
        WornWeights x = Due.with(0, 100);
        due.is("P13 bad", x.shoot(0, 0), Due.BAD);
        due.is("P13 bad", x.shoot(0, 1000), Due.BAD);
        due.is("P13 bad", x.shoot(1, 5), Due.BAD);
        due.is("P13 bad", x.shoot(-1, 5), Due.BAD);
        due.is("P13 took", x.shoot(0, 1), 1);
        due.is("P13 took", x.shoot(0, 999), 898);
        due.is("P13 took none", x.shoot(0, 999), 0);
        due.is("P13 grains", x.told(0, 2), 999);
        due.is("P13 shot", x.count(4), 899);
        for (int i = 0; i < 99; i++) {
            x.file(0, 0);
            x.shoot(0, 999);
        }
        due.is("P13 shot", x.count(4), 99800);
        x.file(0, 0);
        due.is("P13 takes no less", x.shoot(0, 999), 999);
        due.is("P13 takes no less", x.told(0, 2), 999);
        due.is("P13 shot at most", x.count(4), 99999);
        x.file(0, 0);
        due.is("P13 monday takes no less", x.monday(), 90);
        due.is("P13 shot at most", x.count(4), 99999);
    }

    private static void monday() {
        due.promise(14, "A MONDAY: how many grains of SHOT.");
        WornWeights x = Due.with(0, 100, 5, 9, 0, 19);
        due.is("P14 all right", x.monday(), 0);
        x.file(0, 89);
        x.file(1, 8);
        x.file(2, 0);
        due.is("P14 shot", x.monday(), 1 + 1 + 18);
        due.is("P14 grains", x.told(0, 2), 90);
        due.is("P14 grains", x.told(1, 2), 9);
        due.is("P14 grains", x.told(2, 2), 18);
        due.is("P14 shot in all", x.count(4), 20);
        due.is("P14 no day", x.count(5), 0);
        due.is("P14 law", Due.text(x, "law s * 20 + d"), 0);
        x.days(1);
        x.file(2, 500);
        due.is("P14 by law", x.monday(), 909 - 909 + 181 - 180 + 0);
        due.is("P14 held at 999", x.told(0, 2), 999);
        due.is("P14 by day", x.told(1, 2), 181);
        due.is("P14 not below", x.told(2, 2), 500);
        Due.text(x, "law 0 - 1");
        x.file(0, 0);
        due.is("P14 held at 0", x.monday(), 0);
        due.is("P14 without weights", new WornWeights().monday(), 0);
    }

    private static void days() {
        due.promise(15, "n (1 .. 60) DAYS (no more than up to 9999): how many FALLS there were in them. BAD.");
        WornWeights x = Due.with(1, 100, 1, 100, 1, 100, 1, 100, 1, 100);
        due.is("P15 bad", x.days(0), Due.BAD);
        due.is("P15 bad", x.days(61), Due.BAD);
        due.is("P15 bad", x.days(-1), Due.BAD);
        int z = 1;
        int[] grains = {100, 100, 100, 100, 100};
        int shot = 0;
        for (int day = 0; day < 60; day++) {
            int falls = 0;
            for (int i = 0; i < 5; i++) {
                z = z * 1103515245 + 12345;
                if ((z >>> 8) % 100 < 5) {
                    falls++;
                    grains[i] -= Math.min(20, grains[i]);
                }
            }
            for (int i = 0; i < 5 && day % 7 == 0; i++) {
                shot += Math.max(0, 90 - grains[i]);
                grains[i] = Math.max(90, grains[i]);
            }
            due.is("P15 falls on day " + day, x.days(1), falls);
            due.is("P15 z", x.count(9), z);
            due.is("P15 shot", x.count(4), shot);
            due.is("P15 the day", x.count(5), day + 1);
        }
        for (int i = 0; i < 5; i++) {
            due.is("P15 grains", x.told(i, 2), grains[i]);
            due.is("P15 no times", x.told(i, 3), 0);
        }
        due.is("P15 some shot was given", shot > 0 ? 1 : 0, 1);
        dayIsHeld();
        fallsOfSeveralDays();
    }

    private static void fallsOfSeveralDays() {
        WornWeights x = Due.with(5, 100, 5, 100, 5, 100);
        x.seed(9);
        x.keep();
        int[] falls = new int[60];
        for (int i = 0; i < 60; i++) {
            falls[i] = (i == 0 ? 0 : falls[i - 1]) + x.days(1);
        }
        due.is("P15 there were some", falls[59] > 1 ? 1 : 0, 1);
        for (int n = 1; n <= 60; n++) {
            x.back();
            due.is("P15 falls in " + n + " days", x.days(n), falls[n - 1]);
            due.is("P15 the day", x.count(5), n);
        }
    }

    private static void dayIsHeld() {
        WornWeights x = Due.with(0, 100);
        for (int i = 0; i < 166; i++) {
            x.days(60);
        }
        due.is("P15 the day", x.count(5), 9960);
        x.days(60);
        due.is("P15 the day at most", x.count(5), 9999);
        int z = x.count(9);
        due.is("P15 no more days", x.days(60), 0);
        due.is("P15 no more draws", x.count(9), z);
        due.is("P15 the day at most", x.count(5), 9999);
    }

    private static void page() {
        due.promise(16, "Of THE BOOK, PAGE i (the oldest first, from 0 on): what 0 the left set, 1 the right one,"
            + " 2 what it SAYS, 3 whether it FITS (1, 0). BAD: what; NONE: there is no such PAGE.");
        WornWeights x = Due.with(0, 100, 1, 100, 5, 50);
        due.is("P16 none", x.page(0, 0), Due.NONE);
        due.is("P16 bad ahead of none", x.page(0, 4), Due.BAD);
        x.arm(0, 0, 101);
        x.weigh(0, 1, 2);
        x.weigh(1, 1, 6);
        x.arm(0, 0, 90);
        int[][] pages = {{1, 2, 1, 1}, {1, 6, 2, 1}};
        for (int i = 0; i < 2; i++) {
            for (int what = 0; what < 4; what++) {
                due.is("P16 page(" + i + ", " + what + ")", x.page(i, what), pages[i][what]);
            }
        }
        x.file(1, 100);
        due.is("P16 fits no more, by its own arms", x.page(0, 3), 0);
        x.file(0, 100);
        due.is("P16 fits again", x.page(0, 3), 1);
        x.arm(2, 1, 110);
        x.file(1, 95);
        due.is("P16 by the right arm", x.weigh(2, 1, 2), 2);
        due.is("P16 fits by the right arm", x.page(2, 3), 1);
        due.is("P16 none", x.page(3, 0), Due.NONE);
        due.is("P16 none", x.page(-1, 3), Due.NONE);
        due.is("P16 bad", x.page(0, -1), Due.BAD);
    }
}
