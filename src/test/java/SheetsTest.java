/** Promises 30 to 38. */
public final class SheetsTest {
    private static final Due due = new Due();

    public static void main(String[] args) {
        sheet();
        mark();
        pour();
        reads();
        copy();
        lay();
        ask();
        item();
        rest();
        due.end();
    }

    /** What stands in a SHEET, by the way of a SLOT. */
    private static int place(WornWeights x, int sheet, int place) {
        x.lay(4, 2, sheet);
        return x.item(4, place);
    }

    private static void row(WornWeights x, int sheet, int sort, int... values) {
        x.sheet(sheet, sort, values.length);
        for (int i = 0; i < values.length; i++) {
            x.mark(sheet, i, values[i]);
        }
    }

    private static void isRow(String call, WornWeights x, int sheet, int... values) {
        for (int i = 0; i < values.length; i++) {
            due.is(call + ", place " + i, place(x, sheet, i), values[i]);
        }
        due.is(call + ", end", place(x, sheet, values.length), Due.INDEX);
    }

    private static void sheet() {
        due.promise(30, "A SHEET becomes a row of n places of a sort, all 0 (sort -1: MISSING, n any): n (0). BAD: sheet, sort, n above 24; SIZE.");
        WornWeights x = new WornWeights();
        due.is("P30 sheet -1", x.sheet(-1, 0, 5), Due.BAD);
        due.is("P30 sheet 4", x.sheet(4, 0, 5), Due.BAD);
        due.is("P30 sort -2", x.sheet(0, -2, 5), Due.BAD);
        due.is("P30 sort 2", x.sheet(0, 2, 5), Due.BAD);
        due.is("P30 sort 2 ahead of size", x.sheet(0, 2, -5), Due.BAD);
        due.is("P30 n 25", x.sheet(0, 1, 25), Due.BAD);
        due.is("P30 n -1", x.sheet(0, 1, -1), Due.SIZE);
        due.is("P30 least n", x.sheet(0, 0, Integer.MIN_VALUE), Due.SIZE);
        due.is("P30 refused: missing still", x.mark(0, 0, 1), Due.NOTHING);
        due.is("P30 24", x.sheet(0, 0, 24), 24);
        due.is("P30 0", x.sheet(1, 1, 0), 0);
        due.is("P30 0 places", x.mark(1, 0, 0), Due.INDEX);
        row(x, 2, 1, 5, 6);
        due.is("P30 refused", x.sheet(2, 0, -1), Due.SIZE);
        isRow("P30 as it was", x, 2, 5, 6);
        x.sheet(2, 0, 3);
        isRow("P30 all 0", x, 2, 0, 0, 0);
        due.is("P30 missing, n any", x.sheet(2, -1, 99), 0);
        due.is("P30 missing, n any", x.sheet(2, -1, -99), 0);
        due.is("P30 missing", x.pour(2), Due.NOTHING);
    }

    private static void mark() {
        due.promise(31, "A place of a SHEET becomes v (of shorts its lowest 16 bits; of floats v, -99999 .. 99999;"
            + " NONE: NO NUMBER): 1. BAD: sheet; NOTHING; INDEX; KIND: NONE in a row of shorts; BAD: v of floats.");
        WornWeights x = new WornWeights();
        due.is("P31 bad", x.mark(4, 0, 0), Due.BAD);
        due.is("P31 bad", x.mark(-1, 0, 0), Due.BAD);
        due.is("P31 missing", x.mark(0, -1, Due.NONE), Due.NOTHING);
        x.sheet(0, 0, 3);
        x.sheet(1, 1, 3);
        due.is("P31 index", x.mark(0, 3, Due.NONE), Due.INDEX);
        due.is("P31 index", x.mark(0, -1, 0), Due.INDEX);
        due.is("P31 index ahead of v", x.mark(1, 3, 100000), Due.INDEX);
        due.is("P31 kind", x.mark(0, 0, Due.NONE), Due.KIND);
        due.is("P31 16 bits", x.mark(0, 0, 65535), 1);
        due.is("P31 16 bits", x.mark(0, 1, 0x12348000), 1);
        due.is("P31 16 bits", x.mark(0, 2, -32769), 1);
        isRow("P31 shorts", x, 0, -1, -32768, 32767);
        due.is("P31 float above", x.mark(1, 0, 100000), Due.BAD);
        due.is("P31 float below", x.mark(1, 0, -100000), Due.BAD);
        due.is("P31 float", x.mark(1, 0, 99999), 1);
        due.is("P31 float", x.mark(1, 1, -99999), 1);
        due.is("P31 no number", x.mark(1, 2, Due.NONE), 1);
        isRow("P31 floats", x, 1, 99999, -99999, Due.KIND);
    }

    private static void pour() {
        due.promise(32, "GRAINS of WEIGHTS, by numbers, become the places of a SHEET from 0 on"
            + " (each held within 0 .. 999; NO NUMBER, and beyond the SHEET: they stay): how many are otherwise then. BAD; NOTHING.");
        WornWeights x = Due.with(0, 10, 0, 20, 0, 30, 0, 40, 0, 50);
        due.is("P32 bad", x.pour(-1), Due.BAD);
        due.is("P32 bad", x.pour(4), Due.BAD);
        due.is("P32 missing", x.pour(0), Due.NOTHING);
        row(x, 0, 1, 10, -5, Due.NONE, 1000);
        due.is("P32 otherwise", x.pour(0), 2);
        int[] want = {10, 0, 30, 999, 50};
        for (int i = 0; i < 5; i++) {
            due.is("P32 grains " + i, x.told(i, 2), want[i]);
        }
        due.is("P32 the same again", x.pour(0), 0);
        x.sheet(1, 0, 0);
        due.is("P32 no places", x.pour(1), 0);
        x.sheet(1, 0, 24);
        due.is("P32 more places than weights", x.pour(1), 4);
        due.is("P32 all 0", x.count(1), 0);
        due.is("P32 no shot", x.count(4), 0);
        due.is("P32 without weights", poured(), 0);
        pouredIsHeld();
    }

    private static void pouredIsHeld() {
        int[] places = {-99999, -1, 0, 1, 998, 999, 1000, 99999};
        int[] grains = {0, 0, 0, 1, 998, 999, 999, 999};
        for (int sort = 0; sort < 2; sort++) {
            WornWeights x = Due.with(0, 5, 0, 5, 0, 5, 0, 5, 0, 5, 0, 5, 0, 5, 0, 5, 0, 5);
            row(x, 0, sort, places);
            // 16 bits of -99999 are 31073, those of 99999 are -31073.
            due.is("P32 all but the ninth", x.pour(0), 8);
            for (int i = 0; i < 8; i++) {
                boolean turned = sort == 0 && (i == 0 || i == 7);
                due.is("P32 held " + places[i], x.told(i, 2), turned ? 999 - grains[i] : grains[i]);
            }
            due.is("P32 beyond the sheet it stays", x.told(8, 2), 5);
            due.is("P32 none is otherwise", x.pour(0), 0);
        }
    }

    private static int poured() {
        WornWeights x = new WornWeights();
        x.sheet(0, 0, 3);
        return x.pour(0);
    }

    private static void reads() {
        due.promise(33, "The first place k (of numbers alone) at which a SHEET is not what BEHIND k WEIGHINGS of a WEIGHT tells."
            + " BAD; NOTHING; NONE: there is none.");
        WornWeights x = Due.with(0, 10, 4, 10);
        due.is("P33 bad", x.reads(4, 0), Due.BAD);
        due.is("P33 bad", x.reads(-1, 0), Due.BAD);
        due.is("P33 bad ahead of missing", x.reads(0, 2), Due.BAD);
        due.is("P33 bad", x.reads(0, -1), Due.BAD);
        due.is("P33 missing", x.reads(0, 0), Due.NOTHING);
        x.sheet(0, 0, 0);
        due.is("P33 no places", x.reads(0, 0), Due.NONE);
        row(x, 0, 0, 10, 9, 8, 7);
        due.is("P33 right", x.reads(0, 0), Due.NONE);
        x.mark(0, 3, 8);
        due.is("P33 3", x.reads(0, 0), 3);
        x.mark(0, 0, 9);
        due.is("P33 0", x.reads(0, 0), 0);
        row(x, 1, 1, 10, Due.NONE, 8, 8);
        due.is("P33 no number is passed over", x.reads(1, 0), 3);
        x.mark(1, 3, Due.NONE);
        due.is("P33 no number is passed over", x.reads(1, 0), Due.NONE);
        Due.text(x, "wear 2");
        row(x, 2, 0, 10, 9, 9, 8, 8);
        due.is("P33 old", x.reads(2, 1), Due.NONE);
        readsToTheLastPlace();
        due.is("P33 nothing is lost", x.count(1), 20);
        due.is("P33 nothing is lost", x.told(1, 3), 0);
    }

    private static void readsToTheLastPlace() {
        WornWeights x = Due.with(0, 20);
        x.sheet(0, 1, 24);
        for (int k = 0; k < 24; k++) {
            x.mark(0, k, Math.max(0, 20 - k));
        }
        due.is("P33 24 places", x.reads(0, 0), Due.NONE);
        for (int k = 23; k >= 0; k--) {
            x.mark(0, k, 777);
            due.is("P33 the first that is not", x.reads(0, 0), k);
        }
        for (int k = 0; k < 24; k++) {
            due.is("P33 the first of numbers alone", x.reads(0, 0), k);
            x.mark(0, k, Due.NONE);
        }
        due.is("P33 no numbers", x.reads(0, 0), Due.NONE);
    }

    private static void copy() {
        due.promise(34, "So many places of a SHEET come to another one (or the same), as they were: many. BAD; NOTHING;"
            + " KIND: they are not of one sort; INDEX (many below 0, too; many 0: not at the place behind the last one).");
        WornWeights x = new WornWeights();
        x.sheet(0, 1, 4);
        x.sheet(1, 0, 3);
        row(x, 2, 1, 1, 2, Due.NONE, 4, 5);
        due.is("P34 bad", x.copy(4, 0, 3, 0, 0), Due.BAD);
        due.is("P34 bad", x.copy(3, 0, -1, 0, 0), Due.BAD);
        due.is("P34 missing", x.copy(3, 0, 0, 0, 1), Due.NOTHING);
        due.is("P34 missing", x.copy(0, -1, 3, 0, -1), Due.NOTHING);
        due.is("P34 kind ahead of index", x.copy(0, -1, 1, 0, 1), Due.KIND);
        int[][] index = {{-1, 0, 1}, {0, -1, 1}, {0, 0, -1}, {5, 0, 1}, {0, 4, 1}, {3, 0, 3}, {0, 2, 3}, {6, 0, 0},
            {0, 5, 0}, {-1, 0, 0}, {0, -1, 0}, {Integer.MAX_VALUE, 0, 1}, {0, Integer.MAX_VALUE, 1},
            {1, 1, Integer.MAX_VALUE}, {0, 0, Integer.MIN_VALUE}, {Integer.MIN_VALUE, 0, Integer.MIN_VALUE}};
        for (int[] i : index) {
            due.is("P34 index", x.copy(2, i[0], 0, i[1], i[2]), Due.INDEX);
        }
        isRow("P34 refused", x, 0, 0, 0, 0, 0);
        due.is("P34 none, behind the last", x.copy(2, 5, 0, 4, 0), 0);
        due.is("P34 2", x.copy(2, 1, 0, 2, 2), 2);
        isRow("P34 it came", x, 0, 0, 0, 2, Due.KIND);
        due.is("P34 to itself", x.copy(2, 0, 2, 1, 4), 4);
        isRow("P34 as they were", x, 2, 1, 1, 2, Due.KIND, 4);
        due.is("P34 to itself, the other way", x.copy(2, 1, 2, 0, 4), 4);
        isRow("P34 as they were", x, 2, 1, 2, Due.KIND, 4, 4);
        due.is("P34 shorts", x.copy(1, 0, 1, 0, 3), 3);
        copiesNone();
        copiesAll();
        copiesFromTo();
    }

    private static void copiesNone() {
        WornWeights x = new WornWeights();
        x.sheet(0, 0, 3);
        x.sheet(1, 0, 0);
        x.sheet(2, 0, 24);
        for (int place = 0; place <= 3; place++) {
            due.is("P34 none from " + place, x.copy(0, place, 1, 0, 0), 0);
            due.is("P34 none to " + place, x.copy(1, 0, 0, place, 0), 0);
        }
        due.is("P34 none from beyond", x.copy(0, 4, 1, 0, 0), Due.INDEX);
        due.is("P34 none to beyond", x.copy(1, 0, 0, 4, 0), Due.INDEX);
        due.is("P34 none from -1", x.copy(0, -1, 1, 0, 0), Due.INDEX);
        due.is("P34 none to -1", x.copy(1, 0, 0, -1, 0), Due.INDEX);
        due.is("P34 one from a row of none", x.copy(1, 0, 0, 0, 1), Due.INDEX);
        due.is("P34 one to a row of none", x.copy(0, 0, 1, 0, 1), Due.INDEX);
        due.is("P34 none, behind the last of 24", x.copy(2, 24, 2, 24, 0), 0);
        due.is("P34 none, beyond that", x.copy(2, 25, 2, 24, 0), Due.INDEX);
    }

    private static void copiesAll() {
        WornWeights x = new WornWeights();
        x.sheet(0, 0, 24);
        x.sheet(1, 0, 24);
        for (int i = 0; i < 24; i++) {
            x.mark(0, i, 100 + i);
        }
        due.is("P34 24", x.copy(0, 0, 1, 0, 24), 24);
        due.is("P34 25", x.copy(0, 0, 1, 0, 25), Due.INDEX);
        due.is("P34 the last", x.copy(0, 23, 1, 0, 1), 1);
        due.is("P34 to the last", x.copy(0, 0, 1, 23, 1), 1);
        due.is("P34 the last came", place(x, 1, 0), 123);
        due.is("P34 to the last", place(x, 1, 23), 100);
        due.is("P34 between", place(x, 1, 22), 122);
    }

    private static void copiesFromTo() {
        due.promise(34, "(From a SHEET, its place, to a SHEET, its place.)");
        WornWeights x = new WornWeights();
        row(x, 1, 0, 10, 11, 12, 13, 14);
        row(x, 3, 0, 30, 31, 32, 33);
        due.is("two from 1, place 3, to 3, place 0", x.copy(1, 3, 3, 0, 2), 2);
        isRow("to it they came", x, 3, 13, 14, 32, 33);
        isRow("from it none went", x, 1, 10, 11, 12, 13, 14);
        due.is("one from 3, place 2, to 1, place 4", x.copy(3, 2, 1, 4, 1), 1);
        isRow("to it it came", x, 1, 10, 11, 12, 13, 32);
        due.is("place 4 of the row of four", x.copy(3, 4, 1, 0, 1), Due.INDEX);
        due.is("place 4 of the row of five", x.copy(1, 4, 3, 3, 1), 1);
        isRow("to it it came", x, 3, 13, 14, 32, 32);
    }

    private static void lay() {
        due.promise(35, "A SLOT holds: thing 0 nothing (k any), 1 WEIGHT k, 2 SHEET k, 3 the number k: what it held (0 .. 3)."
            + " BAD: slot, thing, k; NOTHING: that SHEET is MISSING.");
        WornWeights x = Due.with(3, 50);
        x.sheet(0, 0, 2);
        due.is("P35 slot", x.lay(-1, 0, 0), Due.BAD);
        due.is("P35 slot", x.lay(5, 0, 0), Due.BAD);
        due.is("P35 thing", x.lay(0, -1, 0), Due.BAD);
        due.is("P35 thing", x.lay(0, 4, 0), Due.BAD);
        due.is("P35 weight", x.lay(0, 1, 1), Due.BAD);
        due.is("P35 weight", x.lay(0, 1, -1), Due.BAD);
        due.is("P35 sheet", x.lay(0, 2, 4), Due.BAD);
        due.is("P35 sheet", x.lay(0, 2, -1), Due.BAD);
        due.is("P35 missing", x.lay(0, 2, 1), Due.NOTHING);
        due.is("P35 nothing, k any", x.lay(0, 0, -7), 0);
        due.is("P35 a number", x.lay(0, 3, Integer.MIN_VALUE), 0);
        due.is("P35 a weight", x.lay(0, 1, 0), 3);
        due.is("P35 a sheet", x.lay(0, 2, 0), 1);
        due.is("P35 refused", x.lay(0, 2, 1), Due.NOTHING);
        due.is("P35 refused", x.lay(0, 1, 1), Due.BAD);
        due.is("P35 nothing", x.lay(0, 0, 0), 2);
        due.is("P35 nothing", x.lay(0, 0, 0), 0);
        due.is("P35 all slots", x.lay(4, 3, 1), 0);
    }

    private static void ask() {
        due.promise(36, "WORTH (by its own KIND, with GRAINS, TIMES as they were) of the WEIGHT in a SLOT,"
            + " taken for one of a KIND (0 .. 5). BAD; NOTHING; KIND: it is no WEIGHT, or not of that KIND, nor of one under it.");
        WornWeights x = Due.with(3, 50, 4, 20);
        x.weigh(0, 1, 0);
        x.lay(0, 1, 0);
        x.lay(1, 1, 1);
        x.lay(2, 3, 5);
        x.weigh(0, 1, 0);
        x.turns(0, 0);
        x.file(1, 999);
        due.is("P36 its own worth", x.ask(0, 3), 46 - 2 - 1);
        due.is("P36 taken for lead", x.ask(0, 1), 43);
        due.is("P36 taken for a weight", x.ask(0, 0), 43);
        due.is("P36 no silk", x.ask(0, 2), Due.KIND);
        due.is("P36 no false one", x.ask(0, 5), Due.KIND);
        due.is("P36 old", x.ask(1, 4), 140);
        due.is("P36 old as silk", x.ask(1, 2), 140);
        due.is("P36 a number", x.ask(2, 0), Due.KIND);
        due.is("P36 nothing", x.ask(3, 0), Due.NOTHING);
        due.is("P36 kind ahead of nothing", x.ask(3, 6), Due.BAD);
        due.is("P36 kind", x.ask(0, -1), Due.BAD);
        due.is("P36 slot", x.ask(5, 0), Due.BAD);
        due.is("P36 slot", x.ask(-1, 0), Due.BAD);
    }

    private static void item() {
        due.promise(37, "A place of the SHEET in a SLOT. BAD: slot; NOTHING; KIND: it is no SHEET; INDEX; KIND: NO NUMBER.");
        WornWeights x = Due.with(0, 5);
        row(x, 0, 1, 7, Due.NONE);
        x.lay(0, 2, 0);
        x.mark(0, 0, 8);
        x.lay(1, 2, 0);
        x.sheet(0, -1, 0);
        due.is("P37 as it was then", x.item(0, 0), 7);
        due.is("P37 as it was then", x.item(1, 0), 8);
        due.is("P37 no number", x.item(0, 1), Due.KIND);
        due.is("P37 index", x.item(0, 2), Due.INDEX);
        due.is("P37 index", x.item(0, -1), Due.INDEX);
        x.lay(2, 1, 0);
        x.lay(3, 3, 0);
        due.is("P37 a weight", x.item(2, -1), Due.KIND);
        due.is("P37 a number", x.item(3, 0), Due.KIND);
        due.is("P37 nothing", x.item(4, -1), Due.NOTHING);
        due.is("P37 slot", x.item(5, 0), Due.BAD);
        due.is("P37 slot", x.item(-1, 0), Due.BAD);
    }

    private static void rest() {
        due.promise(38, "The rest of the number in a SLOT by n. BAD: slot; NOTHING; KIND: it is no number; NO: n is 0.");
        WornWeights x = Due.with(0, 5);
        x.sheet(0, 0, 1);
        x.lay(0, 3, -17);
        x.lay(1, 1, 0);
        x.lay(2, 2, 0);
        x.lay(3, 3, Integer.MIN_VALUE);
        due.is("P38 -17 by 5", x.rest(0, 5), -2);
        due.is("P38 -17 by -5", x.rest(0, -5), -2);
        due.is("P38 by 0", x.rest(0, 0), Due.NO);
        due.is("P38 the least by -1", x.rest(3, -1), 0);
        due.is("P38 a weight", x.rest(1, 0), Due.KIND);
        due.is("P38 a sheet", x.rest(2, 1), Due.KIND);
        due.is("P38 nothing", x.rest(4, 0), Due.NOTHING);
        due.is("P38 slot", x.rest(5, 1), Due.BAD);
        due.is("P38 slot", x.rest(-1, 1), Due.BAD);
    }
}
