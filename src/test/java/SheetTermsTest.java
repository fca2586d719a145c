/** 'Terms', part 5: each sentence that names an end, a first state, a FINDING or what stays as it was. */
public final class SheetTermsTest {
    private static final Due due = new Due();

    public static void main(String[] args) {
        sheetsMissingAtFirst();
        places();
        shorts();
        floats();
        slotsHoldNothingAtFirst();
        weightForGood();
        rowOfItsOwn();
        aNumber();
        nothing();
        index();
        size();
        kind();
        imageKeeps();
        imageKeepsNot();
        againAndAgain();
        anotherImage();
        imageOfAllThatIsFull();
        daysTold();
        allOfTheShot();
        due.end();
    }

    private static int place(WornWeights x, int sheet, int place) {
        x.lay(4, 2, sheet);
        return x.item(4, place);
    }

    private static void sheetsMissingAtFirst() {
        due.term(5, "SHEETS 0 .. 3 are rows of shorts (sort 0) or floats (1; whole numbers)");
        WornWeights x = Due.with(0, 10);
        for (int i = 0; i < 4; i++) {
            due.is("missing at first", x.mark(i, 0, 0), Due.NOTHING);
            due.is("missing at first", x.pour(i), Due.NOTHING);
            due.is("missing at first", x.reads(i, 0), Due.NOTHING);
            due.is("missing at first", x.copy(i, 0, i, 0, 0), Due.NOTHING);
            due.is("missing at first", x.lay(0, 2, i), Due.NOTHING);
        }
        for (int i = 0; i < 4; i++) {
            due.is("shorts", x.sheet(i, 0, 1 + i), 1 + i);
            due.is("no place behind the last", x.mark(i, 1 + i, 0), Due.INDEX);
        }
        due.is("sheet -1", x.sheet(-1, 0, 1), Due.BAD);
        due.is("sheet 4", x.sheet(4, 0, 1), Due.BAD);
        due.is("sort -2", x.sheet(0, -2, 1), Due.BAD);
        due.is("sort 2", x.sheet(0, 2, 1), Due.BAD);
    }

    private static void places() {
        due.term(5, "with 0 to 24 places, or MISSING (at first)");
        WornWeights x = Due.with(0, 10);
        for (int sort = 0; sort < 2; sort++) {
            due.is("-1", x.sheet(0, sort, -1), Due.SIZE);
            due.is("25", x.sheet(0, sort, 25), Due.BAD);
            due.is("0", x.sheet(0, sort, 0), 0);
            due.is("no place 0", x.mark(0, 0, 1), Due.INDEX);
            due.is("0 places are not missing", x.pour(0), 0);
            due.is("24", x.sheet(0, sort, 24), 24);
            due.is("the last place", x.mark(0, 23, 7), 1);
            due.is("it stands there", place(x, 0, 23), 7);
            due.is("no place 24", x.mark(0, 24, 7), Due.INDEX);
            due.is("no place -1", x.mark(0, -1, 7), Due.INDEX);
            due.is("missing again", x.sheet(0, -1, 24), 0);
            due.is("missing again", x.mark(0, 23, 7), Due.NOTHING);
        }
    }

    private static void shorts() {
        due.term(5, "rows of shorts (sort 0)");
        WornWeights x = new WornWeights();
        int[] v = {0, -1, 1, 32767, 32768, -32768, -32769, 65535, 65536, 65537, -65536, 98304, Integer.MAX_VALUE,
            Integer.MIN_VALUE, 100000, -100000, Due.BAD};
        int[] want = {0, -1, 1, 32767, -32768, -32768, 32767, -1, 0, 1, 0, -32768, -1, 0, -31072, 31072, 13823};
        x.sheet(0, 0, v.length);
        for (int i = 0; i < v.length; i++) {
            due.is("mark " + v[i], x.mark(0, i, v[i]), 1);
            due.is(v[i] + " cut to 16 bits", place(x, 0, i), want[i]);
        }
    }

    private static void floats() {
        due.term(5, "A place of floats may be NO NUMBER.");
        WornWeights x = Due.with(0, 10, 0, 10, 0, 10);
        x.sheet(0, 1, 4);
        due.is("the greatest", x.mark(0, 0, 99999), 1);
        due.is("the least", x.mark(0, 1, -99999), 1);
        due.is("no number", x.mark(0, 2, Due.NONE), 1);
        due.is("99999", place(x, 0, 0), 99999);
        due.is("-99999", place(x, 0, 1), -99999);
        due.is("no number", place(x, 0, 2), Due.KIND);
        due.is("a number again", x.mark(0, 2, 5), 1);
        due.is("5", place(x, 0, 2), 5);
        x.mark(0, 2, Due.NONE);
        x.sheet(0, 1, 4);
        due.is("all 0 in a new row", place(x, 0, 2), 0);
        x.sheet(1, 0, 4);
        due.is("not in a row of shorts", x.mark(1, 2, Due.NONE), Due.KIND);
    }

    private static void slotsHoldNothingAtFirst() {
        due.term(5, "SLOTS 0 .. 4 each hold nothing (at first)");
        WornWeights x = Due.with(0, 10);
        for (int i = 0; i < 5; i++) {
            due.is("ask", x.ask(i, 0), Due.NOTHING);
            due.is("item", x.item(i, 0), Due.NOTHING);
            due.is("rest", x.rest(i, 1), Due.NOTHING);
            due.is("lay", x.lay(i, 3, 50 + i), 0);
        }
        for (int i = 0; i < 5; i++) {
            due.is("each its own", x.rest(i, 1000), 50 + i);
            due.is("nothing again", x.lay(i, 0, 0), 3);
            due.is("nothing again", x.rest(i, 1000), Due.NOTHING);
        }
        due.is("slot -1", x.lay(-1, 0, 0), Due.BAD);
        due.is("slot 5", x.lay(5, 0, 0), Due.BAD);
    }

    private static void weightForGood() {
        due.term(5, "a WEIGHT (as it is then, for good)");
        WornWeights x = Due.with(3, 100);
        x.keep();
        x.weight(3, 50);
        x.weigh(0, 2, 0);
        x.lay(0, 1, 0);
        x.lay(1, 1, 1);
        x.weigh(0, 1, 2);
        x.file(0, 9);
        x.turns(0, 2);
        x.fall(1);
        due.is("behind weighings, file, turns", x.ask(0, 3), 98);
        due.is("it is lead, too, as it was", x.ask(0, 1), 98);
        due.is("no silk, as it was", x.ask(0, 2), Due.KIND);
        due.is("its times then", x.ask(1, 3), 46 - 2 - 1);
        x.back();
        due.is("the weight is gone", x.told(1, 0), Due.BAD);
        due.is("it is in the slot still", x.ask(1, 0), 43);
        x.weight(5, 7);
        due.is("another one has its number", x.told(1, 6), 7);
        due.is("it is in the slot still", x.ask(1, 0), 43);
        due.is("no false one", x.ask(1, 5), Due.KIND);
        WornWeights none = new WornWeights();
        none.keep();
        none.weight(4, 20);
        none.lay(0, 1, 0);
        none.back();
        due.is("no weight is there but that in the slot", none.ask(0, 4), 140);
    }

    private static void rowOfItsOwn() {
        due.term(5, "a SHEET (a row of its own, as it was then)");
        WornWeights x = new WornWeights();
        x.sheet(0, 0, 2);
        x.mark(0, 0, 5);
        x.lay(0, 2, 0);
        x.lay(1, 2, 0);
        x.mark(0, 0, 6);
        x.mark(0, 1, 7);
        due.is("a place marked since", x.item(0, 0), 5);
        due.is("a place marked since", x.item(0, 1), 0);
        x.lay(1, 2, 0);
        due.is("the other slot has the new one", x.item(1, 0), 6);
        due.is("this one has not", x.item(0, 0), 5);
        x.sheet(0, 1, 24);
        due.is("places stay", x.item(0, 2), Due.INDEX);
        due.is("places stay", x.item(1, 1), 7);
        x.copy(0, 5, 0, 0, 2);
        x.sheet(0, -1, 0);
        due.is("missing since", x.item(0, 0), 5);
        due.is("it can't be laid again", x.lay(0, 2, 0), Due.NOTHING);
        due.is("it is there still", x.item(0, 0), 5);
        x.sheet(1, 1, 0);
        due.is("a row without places", x.lay(2, 2, 1), 0);
        due.is("it has no place 0", x.item(2, 0), Due.INDEX);
        due.is("it is a sheet", x.lay(2, 0, 0), 2);
    }

    private static void aNumber() {
        due.term(5, "as it was then), or a number");
        WornWeights x = new WornWeights();
        int[] numbers = {0, 1, -1, Integer.MAX_VALUE, Integer.MIN_VALUE, Due.NONE, Due.NOTHING};
        for (int v : numbers) {
            x.lay(0, 3, v);
            due.is("half of it", x.rest(0, 65536), v % 65536);
            due.is("by the least", x.rest(0, Integer.MIN_VALUE), v == Integer.MIN_VALUE ? 0 : v);
        }
    }

    private static void nothing() {
        due.term(5, "FINDINGS: NOTHING: a SHEET is MISSING, a SLOT holds nothing");
        WornWeights x = Due.with(0, 10);
        x.sheet(0, 0, 1);
        due.is("mark", x.mark(1, 0, 0), Due.NOTHING);
        due.is("pour", x.pour(1), Due.NOTHING);
        due.is("reads", x.reads(1, 0), Due.NOTHING);
        due.is("copy from", x.copy(1, 0, 0, 0, 0), Due.NOTHING);
        due.is("copy to", x.copy(0, 0, 1, 0, 0), Due.NOTHING);
        due.is("copy both", x.copy(1, 0, 2, 0, 0), Due.NOTHING);
        due.is("lay", x.lay(0, 2, 1), Due.NOTHING);
        due.is("ask", x.ask(0, 0), Due.NOTHING);
        due.is("item", x.item(0, 0), Due.NOTHING);
        due.is("rest", x.rest(0, 1), Due.NOTHING);
    }

    private static void index() {
        due.term(5, "INDEX: there is no such place");
        WornWeights x = new WornWeights();
        x.sheet(0, 1, 3);
        x.lay(0, 2, 0);
        int[] none = {-1, 3, 4, 24, Integer.MAX_VALUE, Integer.MIN_VALUE};
        for (int place : none) {
            due.is("mark", x.mark(0, place, 1), Due.INDEX);
            due.is("item", x.item(0, place), Due.INDEX);
            due.is("copy from", x.copy(0, place, 0, 0, 1), Due.INDEX);
            due.is("copy to", x.copy(0, 0, 0, place, 1), Due.INDEX);
        }
        for (int place = 0; place < 3; place++) {
            due.is("item", x.item(0, place), 0);
            due.is("copy", x.copy(0, place, 0, place, 1), 1);
            due.is("mark", x.mark(0, place, 1), 1);
        }
    }

    private static void size() {
        due.term(5, "SIZE: a number of places is below 0");
        WornWeights x = new WornWeights();
        due.is("-1", x.sheet(0, 0, -1), Due.SIZE);
        due.is("the least", x.sheet(0, 1, Integer.MIN_VALUE), Due.SIZE);
        due.is("missing still", x.pour(0), Due.NOTHING);
        due.is("0 is not", x.sheet(0, 1, 0), 0);
        due.is("nor is it for one that becomes missing", x.sheet(0, -1, -1), 0);
    }

    private static void kind() {
        due.term(5, "KIND: it is none (of a KIND, a number, or another thing)");
        WornWeights x = Due.with(1, 10);
        x.sheet(0, 0, 1);
        x.sheet(1, 1, 1);
        x.mark(1, 0, Due.NONE);
        x.lay(0, 1, 0);
        x.lay(1, 2, 1);
        x.lay(2, 3, 5);
        due.is("lead as silk", x.as(0, 2), Due.KIND);
        due.is("lead as scarred", x.as(0, 3), Due.KIND);
        due.is("lead in a slot as scarred", x.ask(0, 3), Due.KIND);
        due.is("a sheet as a weight", x.ask(1, 0), Due.KIND);
        due.is("a number as a weight", x.ask(2, 0), Due.KIND);
        due.is("a weight as a sheet", x.item(0, 0), Due.KIND);
        due.is("no number", x.item(1, 0), Due.KIND);
        due.is("a number as a sheet", x.item(2, 0), Due.KIND);
        due.is("a weight as a number", x.rest(0, 1), Due.KIND);
        due.is("a sheet as a number", x.rest(1, 1), Due.KIND);
        due.is("shorts to floats", x.copy(0, 0, 1, 0, 1), Due.KIND);
        due.is("floats to shorts", x.copy(1, 0, 0, 0, 1), Due.KIND);
        due.is("no number among shorts", x.mark(0, 0, Due.NONE), Due.KIND);
    }

    private static void imageKeeps() {
        due.term(5, "AN IMAGE keeps all but SHEETS, SLOTS, numbers that wait, THE TAPE");
        WornWeights x = Due.with(3, 100, 1, 50);
        Due.text(x, "fine 77");
        x.arm(3, 1, 93);
        x.weigh(3, 1, 2);
        x.shoot(1, 4);
        x.days(2);
        x.keep();
        int[] then = new int[24];
        seen(x, then);
        x.turns(0, 5);
        x.turns(1, 4);
        x.file(0, 1);
        x.weigh(3, 2, 1);
        x.weigh(1, 0, 1);
        x.shoot(0, 100);
        x.days(9);
        x.seed(99);
        x.deal(5);
        Due.text(x, "fine 88");
        Due.text(x, "wear 8");
        x.arm(3, 1, 110);
        x.arm(0, 0, 90);
        due.is("how many weights", x.back(), 2);
        int[] now = new int[24];
        seen(x, now);
        for (int i = 0; i < then.length; i++) {
            due.is("number " + i + " of what is seen", now[i], then[i]);
        }
        due.is("arm", x.arm(3, 1, 100), 93);
        due.is("arm", x.arm(0, 0, 100), 100);
    }

    private static void seen(WornWeights x, int[] row) {
        int at = 0;
        for (int what = 0; what < 7; what++) {
            row[at++] = x.told(0, what);
            row[at++] = x.count(what);
        }
        row[at++] = x.count(9);
        for (int what = 0; what < 4; what++) {
            row[at++] = x.page(0, what);
        }
        row[at++] = x.page(1, 0);
        row[at++] = x.why(0);
        row[at++] = x.why(2);
        row[at++] = x.fine(0);
        row[at++] = x.textTold(1, 0);
    }

    private static void imageKeepsNot() {
        due.term(5, "all but SHEETS, SLOTS, numbers that wait, THE TAPE");
        WornWeights x = Due.with(5, 10);
        x.sheet(0, 0, 2);
        x.mark(0, 0, 1);
        x.lay(0, 3, 1);
        Due.tape(x, "fine ");
        x.tell(10);
        x.keep();
        x.mark(0, 0, 2);
        x.sheet(1, 1, 3);
        x.lay(0, 3, 2);
        x.lay(1, 1, 0);
        Due.tape(x, "35");
        x.tell(0);
        x.back();
        due.is("the sheet is as it became", place(x, 0, 0), 2);
        due.is("the other sheet, too", place(x, 1, 2), 0);
        due.is("the slot", x.rest(0, 5), 2);
        due.is("the other slot", x.ask(1, 5), 7);
        due.is("two numbers wait", x.count(7), 2);
        due.is("they are as they were", x.check(1), 0);
        due.is("seven bytes", x.count(8), 7);
        due.is("they are as they were", x.text(), 0);
        due.is("they are as they were", x.fine(0), 35);
        x.sheet(0, -1, 0);
        x.lay(0, 0, 0);
        x.back();
        due.is("missing still", x.pour(0), Due.NOTHING);
        due.is("empty still", x.rest(0, 5), Due.NOTHING);
        due.is("none wait still", x.count(7), 0);
        due.is("used up still", x.count(8), 0);
    }

    private static void againAndAgain() {
        due.term(5, "all can become as it is (again and again)");
        WornWeights x = Due.with(0, 100);
        Due.text(x, "wear 2");
        x.weigh(0, 1, 0);
        x.keep();
        for (int i = 0; i < 5; i++) {
            x.weigh(0, 0, 1);
            x.weight(1, 5 + i);
            x.weigh(1, 3, 0);
            Due.text(x, "wear 3");
            x.days(30);
            x.arm(0, 0, 90 + i);
            due.is("back", x.back(), 1);
            due.is("grains", x.told(0, 2), 98);
            due.is("times", x.told(0, 3), 1);
            due.is("loses", x.told(0, 4), 2);
            due.is("pages", x.count(3), 1);
            due.is("the page", x.page(0, 0), 1);
            due.is("texts", x.count(6), 1);
            due.is("the day", x.count(5), 0);
            due.is("arm", x.arm(0, 0, 100), 100);
        }
        due.is("twice, one behind the other", x.back(), 1);
        due.is("kept as it is", x.keep(), 1);
        due.is("as it was", x.back(), 1);
        due.is("grains", x.told(0, 2), 98);
    }

    private static void anotherImage() {
        due.term(5, "AN IMAGE keeps all");
        WornWeights x = new WornWeights();
        due.is("none", x.back(), Due.NO);
        due.is("without weights", x.keep(), 0);
        x.weight(0, 5);
        due.is("without weights", x.back(), 0);
        due.is("none is there", x.told(0, 0), Due.BAD);
        x.weight(0, 6);
        x.weight(0, 7);
        due.is("two", x.keep(), 2);
        x.weight(0, 8);
        due.is("the later one alone", x.back(), 2);
        due.is("the later one alone", x.told(1, 1), 7);
    }

    private static void imageOfAllThatIsFull() {
        due.term(5, "all can become as it is");
        WornWeights x = new WornWeights();
        x.deal(10);
        for (int i = 0; i < 14; i++) {
            Due.text(x, "fine " + i);
        }
        for (int i = 1; i <= 21; i++) {
            x.weigh(0, i, 0);
        }
        due.is("ten weights", x.keep(), 10);
        x.weigh(0, 999, 0);
        due.is("ten weights", x.back(), 10);
        due.is("twenty pages", x.count(3), 20);
        due.is("the first", x.page(0, 0), 2);
        due.is("the last", x.page(19, 0), 21);
        due.is("fourteen texts", x.count(6), 14);
        due.is("the last counts", x.fine(9), 13);
        due.is("full", x.weight(0, 1), Due.FULL);
        due.is("full", Due.text(x, "fine 5"), Due.FULL);
    }

    private static void daysTold() {
        due.term(5, "THE DAYS TOLD: of n DAYS, one behind the other, by THE IMAGE: GRAINS of all together; SHOT (all of it) behind it");
        WornWeights x = Due.with(0, 100, 5, 50);
        x.file(1, 0);
        x.seed(Due.seedFor(100, 0, 1, 0, 100, 4));
        x.keep();
        x.file(0, 5);
        x.seed(1);
        x.days(3);
        int[] told = {90 + 45, 45, 80 + 45, 45};
        for (int v : told) {
            x.tell(v);
        }
        due.is("two days of the image", x.check(2), 0);
        due.is("all is as it was", x.count(5), 3);
        for (int v : told) {
            x.tell(v);
        }
        due.is("again", x.check(2), 0);
        x.tell(45);
        x.tell(90 + 45);
        due.is("the other way round", x.check(1), 1);
    }

    private static void allOfTheShot() {
        due.term(5, "SHOT (all of it) behind it");
        WornWeights x = Due.with(5, 100);
        x.shoot(0, 30);
        x.file(0, 60);
        x.keep();
        x.tell(90);
        x.tell(60);
        due.is("with what was ahead of the image", x.check(1), 0);
        x.tell(90);
        x.tell(30);
        due.is("not that of the day alone", x.check(1), 2);
    }
}
