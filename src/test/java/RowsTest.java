/** Promises 39 to 43. */
public final class RowsTest {
    private static final Due due = new Due();

    public static void main(String[] args) {
        tell();
        check();
        checkAtTheLastDay();
        keepAndBack();
        imageKeepsTexts();
        count();
        due.end();
    }

    private static void tell() {
        due.promise(39, "One more number waits: how many. FULL: 60 wait.");
        WornWeights x = new WornWeights();
        for (int i = 1; i <= 60; i++) {
            due.is("P39 how many", x.tell(-i), i);
        }
        due.is("P39 full", x.tell(0), Due.FULL);
        due.is("P39 60", x.count(7), 60);
        x.check(1);
        due.is("P39 room again", x.tell(Integer.MIN_VALUE), 1);
    }

    /** THE DAYS TOLD, by the way of days() itself. */
    private static int[] daysTold(WornWeights x, int n) {
        x.back();
        int[] told = new int[2 * n];
        for (int i = 0; i < n; i++) {
            x.days(1);
            told[2 * i] = x.count(1);
            told[2 * i + 1] = x.count(4);
        }
        return told;
    }

    private static int checked(WornWeights x, int n, int[] told, int many) {
        for (int i = 0; i < many; i++) {
            x.tell(told[i]);
        }
        return x.check(n);
    }

    private static void check() {
        due.promise(40, "else 1 and how many stand right ahead of the first that is not (or is missing, or one too many). BAD; NO: there is no IMAGE.");
        WornWeights x = new WornWeights();
        x.deal(10);
        x.tell(1);
        due.is("P40 no image", x.check(1), Due.NO);
        due.is("P40 none wait then", x.count(7), 0);
        x.tell(1);
        due.is("P40 bad ahead of no image", x.check(0), Due.BAD);
        due.is("P40 none wait then", x.count(7), 0);
        x.file(0, 3);
        x.shoot(1, 30);
        Due.text(x, "wear 1 + g / 50");
        Due.text(x, "law s - s / 20 + d");
        x.days(3);
        x.keep();
        int[] told = daysTold(x, 30);
        Due.text(x, "wear 50");
        int z = x.count(9);
        due.is("P40 30 days", checked(x, 30, told, 60), 0);
        due.is("P40 none wait then", x.count(7), 0);
        due.is("P40 it changes nothing", x.count(9), z);
        due.is("P40 it changes nothing", x.count(5), 33);
        due.is("P40 5 days", checked(x, 5, told, 10), 0);
        due.is("P40 missing", checked(x, 5, told, 9), 10);
        due.is("P40 all are missing", checked(x, 5, told, 0), 1);
        due.is("P40 one too many", checked(x, 5, told, 11), 11);
        due.is("P40 more too many", checked(x, 5, told, 20), 11);
        for (int i = 0; i < 10; i++) {
            told[i]++;
            due.is("P40 wrong at " + i, checked(x, 5, told, 10), 1 + i);
            told[i]--;
        }
        due.is("P40 31", checked(x, 31, told, 10), Due.BAD);
        due.is("P40 none wait then", x.count(7), 0);
        due.is("P40 -1", checked(x, -1, told, 10), Due.BAD);
    }

    private static void checkAtTheLastDay() {
        due.promise(40, "are THE DAYS TOLD of n (1 .. 30; fewer, if THE DAY would be above 9999), two by two: 0;");
        WornWeights x = Due.with(0, 100);
        for (int i = 0; i < 166; i++) {
            x.days(60);
        }
        x.days(37);
        x.keep();
        int[] told = daysTold(x, 2);
        due.is("P40 the last day", x.count(5), 9999);
        due.is("P40 two days are left", checked(x, 30, told, 4), 0);
        due.is("P40 two days are left", checked(x, 30, told, 3), 4);
        x.keep();
        due.is("P40 no day is left", x.check(30), 0);
        due.is("P40 no day is left", checked(x, 1, told, 1), 1);
        for (int n = 1; n <= 30; n++) {
            due.is("P40 no day is left of " + n, x.check(n), 0);
        }
    }

    private static void keepAndBack() {
        due.promise(42, "All is as THE IMAGE: how many WEIGHTS. NO: there is none.");
        WornWeights x = Due.with(1, 50, 0, 20);
        due.is("P42 none", x.back(), Due.NO);
        x.arm(1, 0, 95);
        x.weigh(1, 1, 2);
        x.shoot(1, 7);
        x.days(2);
        x.sheet(0, 0, 2);
        x.lay(0, 3, 8);
        due.is("P41 keep", x.keep(), 2);
        int[] kept = new int[7];
        for (int what = 0; what < 7; what++) {
            kept[what] = x.count(what);
        }
        int z = x.count(9);
        for (int again = 0; again < 2; again++) {
            x.deal(4);
            x.turns(0, 5);
            x.file(1, 500);
            x.weigh(0, 2, 1);
            x.arm(1, 0, 110);
            x.days(30);
            Due.text(x, "wear 3");
            x.seed(5);
            x.feed(1, 2, 3);
            x.tell(5);
            x.mark(0, again, 9);
            x.lay(0, 3, 10 + again);
            due.is("P42 back", x.back(), 2);
            for (int what = 0; what < 7; what++) {
                due.is("P42 count " + what, x.count(what), kept[what]);
            }
            due.is("P42 z", x.count(9), z);
            due.is("P42 kind", x.told(0, 0), 1);
            due.is("P42 times", x.told(0, 3), 1);
            due.is("P42 page", x.page(0, 0), 1);
            due.is("P42 arm", x.arm(1, 0, 95), 95);
            due.is("P42 no text", x.why(0), Due.NONE);
            due.is("P42 the tape stays", x.count(8), 12);
            due.is("P42 what waits stays", x.count(7), 1 + again);
            x.lay(1, 2, 0);
            due.is("P42 sheets stay", x.item(1, again), 9);
            due.is("P42 slots stay", x.rest(0, 100), 10 + again);
            x.trim(0);
        }
        x.weight(0, 5);
        due.is("P41 a later image", x.keep(), 3);
        x.file(2, 1);
        due.is("P42 a later image", x.back(), 3);
        due.is("P42 a later image", x.told(2, 2), 5);
    }

    private static void imageKeepsTexts() {
        due.promise(41, "AN IMAGE is kept: how many WEIGHTS.");
        WornWeights x = Due.with(0, 100);
        Due.text(x, "wear 4");
        x.keep();
        Due.text(x, "wear 9");
        Due.text(x, "fine 3");
        due.is("P42 ahead", x.told(0, 4), 9);
        x.back();
        due.is("P42 texts", x.count(6), 1);
        due.is("P42 the first counts again", x.told(0, 4), 4);
        due.is("P42 why", x.why(0), 0);
        due.is("P42 fine", x.why(2), Due.NONE);
        due.is("P42 the next number", Due.text(x, "law 999"), 1);
        due.is("P42 told", x.textTold(1, 0), 1);
        x.back();
        due.is("P42 again", x.textTold(1, 0), Due.BAD);
    }

    private static void count() {
        due.promise(43, "0 how many WEIGHTS, 1 GRAINS of all together, 2 STAMPS of all together, 3 PAGES, 4 SHOT, 5 THE DAY,"
            + " 6 TEXTS, 7 numbers that wait, 8 bytes of THE TAPE, 9 z. BAD.");
        WornWeights x = Due.with(0, 100, 1, 30);
        x.file(0, 40);
        x.weigh(0, 1, 0);
        x.shoot(1, 6);
        x.days(1);
        Due.text(x, "wear 4");
        x.tell(1);
        x.feed(0, 0, 0);
        x.seed(17);
        int[] want = {2, x.told(0, 2) + x.told(1, 2), 130, 1, x.count(4), 1, 1, 1, 12, 17};
        for (int what = 0; what < 10; what++) {
            due.is("P43 count(" + what + ")", x.count(what), want[what]);
        }
        due.is("P43 -1", x.count(-1), Due.BAD);
        due.is("P43 10", x.count(10), Due.BAD);
    }
}
