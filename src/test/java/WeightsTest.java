/** Promises 1 to 9. */
public final class WeightsTest {
    private static final Due due = new Due();

    public static void main(String[] args) {
        newObject();
        weight();
        told();
        as();
        turns();
        file();
        arm();
        deal();
        seed();
        due.end();
    }

    private static void newObject() {
        due.promise(1, "As told; no WEIGHTS.");
        WornWeights x = new WornWeights();
        int[] first = {0, 0, 0, 0, 0, 0, 0, 0, 0, 1};
        for (int what = 0; what < 10; what++) {
            due.is("P1 count(" + what + ")", x.count(what), first[what]);
        }
        for (int i = 0; i < 4; i++) {
            due.is("P1 arm", x.arm(i, 0, 90), 100);
            due.is("P1 arm", x.arm(i, 1, 110), 100);
            due.is("P1 a sheet is missing", x.pour(i), Due.NOTHING);
        }
        for (int i = 0; i < 5; i++) {
            due.is("P1 a slot is empty", x.lay(i, 0, 0), 0);
        }
        for (int i = 0; i < 3; i++) {
            due.is("P1 no text", x.why(i), Due.NONE);
        }
        due.is("P1 no image", x.back(), Due.NO);
        due.is("P1 no page", x.page(0, 0), Due.NONE);
    }

    private static void weight() {
        due.promise(2, "One more WEIGHT: its number. BAD; FULL.");
        WornWeights x = new WornWeights();
        due.is("P2 kind -1", x.weight(-1, 5), Due.BAD);
        due.is("P2 kind 6", x.weight(6, 5), Due.BAD);
        due.is("P2 stamp 0", x.weight(0, 0), Due.BAD);
        due.is("P2 stamp 1000", x.weight(0, 1000), Due.BAD);
        due.is("P2 least int", x.weight(Integer.MIN_VALUE, Integer.MIN_VALUE), Due.BAD);
        for (int i = 0; i < 10; i++) {
            due.is("P2 number", x.weight(i % 6, i == 0 ? 1 : 999), i);
        }
        due.is("P2 full", x.weight(0, 5), Due.FULL);
        due.is("P2 bad ahead of full", x.weight(6, 5), Due.BAD);
        due.is("P2 how many", x.count(0), 10);
    }

    private static void told() {
        due.promise(3, "Of a WEIGHT: what 0 KIND, 1 STAMP, 2 GRAINS, 3 TIMES, 4 what it LOSES at a weighing, 5 at a fall, 6 WORTH. BAD.");
        WornWeights x = Due.with(0, 100, 1, 100, 2, 100, 3, 100, 4, 100, 5, 100);
        int[] loses = {1, 2, 0, 4, 0, 0};
        int[] worth = {100, 98, 200, 98, 300, 7};
        for (int i = 0; i < 6; i++) {
            due.is("P3 kind", x.told(i, 0), i);
            due.is("P3 stamp", x.told(i, 1), 100);
            due.is("P3 grains", x.told(i, 2), 100);
            due.is("P3 times", x.told(i, 3), 0);
            due.is("P3 loses", x.told(i, 4), loses[i]);
            due.is("P3 loses at a fall", x.told(i, 5), 10 * loses[i]);
            due.is("P3 worth", x.told(i, 6), worth[i]);
        }
        due.is("P3 text", Due.text(x, "wear 5+t"), 0);
        int[] losesByText = {5, 6, 2, 12, 2, 0};
        for (int i = 0; i < 6; i++) {
            due.is("P3 loses by a text", x.told(i, 4), losesByText[i]);
        }
        x.weigh(0, 63, 0);
        int[] losesNext = {6, 7, 3, 14, 0, 0};
        int[] worthNext = {95, 92, 196, 85, 296, 7};
        for (int i = 0; i < 6; i++) {
            due.is("P3 loses once weighed", x.told(i, 4), losesNext[i]);
            due.is("P3 worth once weighed", x.told(i, 6), worthNext[i]);
            due.is("P3 times once weighed", x.told(i, 3), 1);
        }
        losesAreHeld();
        due.is("P3 what 7", x.told(0, 7), Due.BAD);
        due.is("P3 what -1", x.told(0, -1), Due.BAD);
        due.is("P3 weight 6", x.told(6, 0), Due.BAD);
        due.is("P3 weight -1", x.told(-1, 0), Due.BAD);
    }

    private static void losesAreHeld() {
        WornWeights x = Due.with(0, 999, 1, 999, 3, 999, 2, 999, 3, 150);
        Due.text(x, "wear 9999");
        int[] most = {99, 100, 200, 49, 150};
        int[] fall = {990, 999, 999, 490, 150};
        for (int i = 0; i < 5; i++) {
            due.is("P3 held at 99", x.told(i, 4), most[i]);
            due.is("P3 fall held by grains", x.told(i, 5), fall[i]);
        }
        Due.text(x, "wear 0-5");
        due.is("P3 held at 0", x.told(0, 4), 0);
        due.is("P3 held at 0, lead", x.told(1, 4), 1);
        x.file(1, 0);
        due.is("P3 no more than grains", x.told(1, 4), 0);
        due.is("P3 worth may be below 0", x.told(1, 6), -2);
    }

    private static void as() {
        due.promise(4, "A WEIGHT as one of a KIND: GRAINS. BAD: weight, kind; KIND: it is not of that KIND, nor of one under it.");
        boolean[][] is = {
            {true, false, false, false, false, false},
            {true, true, false, false, false, false},
            {true, false, true, false, false, false},
            {true, true, false, true, false, false},
            {true, false, true, false, true, false},
            {true, false, false, false, false, true}};
        WornWeights x = Due.with(0, 10, 1, 11, 2, 12, 3, 13, 4, 14, 5, 15);
        for (int i = 0; i < 6; i++) {
            for (int k = 0; k < 6; k++) {
                due.is("P4 " + i + " as " + k, x.as(i, k), is[i][k] ? 10 + i : Due.KIND);
            }
        }
        due.is("P4 kind 6", x.as(0, 6), Due.BAD);
        due.is("P4 kind -1", x.as(0, -1), Due.BAD);
        due.is("P4 weight 6", x.as(6, 0), Due.BAD);
        due.is("P4 weight -1", x.as(-1, 0), Due.BAD);
    }

    private static void turns() {
        due.promise(5, "A WEIGHT is of another KIND (or the same) from now on: what it was. BAD.");
        WornWeights x = Due.with(3, 10);
        due.is("P5 bad kind", x.turns(0, 6), Due.BAD);
        due.is("P5 bad kind", x.turns(0, -1), Due.BAD);
        due.is("P5 bad weight", x.turns(1, 0), Due.BAD);
        due.is("P5 bad weight", x.turns(-1, 0), Due.BAD);
        due.is("P5 was", x.turns(0, 4), 3);
        due.is("P5 the same", x.turns(0, 4), 4);
        due.is("P5 is", x.told(0, 0), 4);
        due.is("P5 worth", x.told(0, 6), 120);
        x.file(0, 7);
        x.weigh(0, 1, 0);
        for (int kind = 0; kind < 6; kind++) {
            x.turns(0, kind);
            due.is("P5 stamp stays", x.told(0, 1), 10);
            due.is("P5 grains stay", x.told(0, 2), 7);
            due.is("P5 times stay", x.told(0, 3), 1);
        }
    }

    private static void file() {
        due.promise(6, "GRAINS of a WEIGHT become v (0 .. 999): what they were. BAD.");
        WornWeights x = Due.with(0, 10);
        due.is("P6 bad", x.file(0, -1), Due.BAD);
        due.is("P6 bad", x.file(0, 1000), Due.BAD);
        due.is("P6 bad weight", x.file(1, 5), Due.BAD);
        due.is("P6 bad weight", x.file(-1, 5), Due.BAD);
        due.is("P6 was", x.file(0, 999), 10);
        due.is("P6 was", x.file(0, 0), 999);
        due.is("P6 is", x.told(0, 2), 0);
        due.is("P6 stamp stays", x.told(0, 1), 10);
        due.is("P6 no shot", x.count(4), 0);
        due.is("P6 the same", x.file(0, 0), 0);
    }

    private static void arm() {
        due.promise(7, "The ARM of a BALANCE (side 0 left, 1 right) becomes v: what it was. BAD.");
        WornWeights x = Due.with(0, 100, 0, 100);
        due.is("P7 balance -1", x.arm(-1, 0, 100), Due.BAD);
        due.is("P7 balance 4", x.arm(4, 0, 100), Due.BAD);
        due.is("P7 side -1", x.arm(0, -1, 100), Due.BAD);
        due.is("P7 side 2", x.arm(0, 2, 100), Due.BAD);
        due.is("P7 v 89", x.arm(0, 0, 89), Due.BAD);
        due.is("P7 v 111", x.arm(0, 0, 111), Due.BAD);
        due.is("P7 was", x.arm(2, 1, 110), 100);
        due.is("P7 was", x.arm(2, 1, 90), 110);
        due.is("P7 the left one is as it was", x.arm(2, 0, 101), 100);
        due.is("P7 it counts", x.said(2, 1, 2), 1);
        due.is("P7 on that balance alone", x.said(1, 1, 2), 0);
        due.is("P7 on that balance alone", x.said(3, 1, 2), 0);
    }

    private static void deal() {
        due.promise(8, "WEIGHTS are drawn, n (1 .. 10) of them, as many as there is room for (no draws for others): how many came. BAD.");
        WornWeights x = new WornWeights();
        due.is("P8 0", x.deal(0), Due.BAD);
        due.is("P8 11", x.deal(11), Due.BAD);
        due.is("P8 one", x.deal(1), 1);
        int z1 = 1103515245 + 12345;
        int z2 = z1 * 1103515245 + 12345;
        due.is("P8 z", x.count(9), z2);
        due.is("P8 kind", x.told(0, 0), (z1 >>> 8) % 6);
        due.is("P8 stamp", x.told(0, 1), 1 + (z2 >>> 8) % 400);
        due.is("P8 grains", x.told(0, 2), x.told(0, 1));
        x.seed(-77);
        due.is("P8 nine more", x.deal(10), 9);
        int z = -77;
        for (int i = 1; i < 10; i++) {
            z = z * 1103515245 + 12345;
            due.is("P8 kind " + i, x.told(i, 0), (z >>> 8) % 6);
            z = z * 1103515245 + 12345;
            due.is("P8 stamp " + i, x.told(i, 1), 1 + (z >>> 8) % 400);
        }
        due.is("P8 no room", x.deal(3), 0);
        due.is("P8 no draws for others", x.count(9), z);
        for (int n = 1; n <= 10; n++) {
            WornWeights y = Due.with(0, 1, 0, 1, 0, 1, 0, 1);
            due.is("P8 room for six", y.deal(n), Math.min(n, 6));
            due.is("P8 as many", y.count(0), 4 + Math.min(n, 6));
            int drawn = 1;
            for (int i = 0; i < 2 * Math.min(n, 6); i++) {
                drawn = drawn * 1103515245 + 12345;
            }
            due.is("P8 two draws for each", y.count(9), drawn);
        }
    }

    private static void seed() {
        due.promise(9, "z becomes v: what it was.");
        WornWeights x = new WornWeights();
        due.is("P9 was", x.seed(Integer.MIN_VALUE), 1);
        due.is("P9 was", x.seed(Integer.MAX_VALUE), Integer.MIN_VALUE);
        due.is("P9 was", x.seed(0), Integer.MAX_VALUE);
        due.is("P9 is", x.count(9), 0);
        due.is("P9 what a refusal is called is a number too", x.seed(Due.BAD), 0);
        due.is("P9 what a refusal is called is a number too", x.seed(1), Due.BAD);
        due.is("P9 is", x.count(9), 1);
    }
}
