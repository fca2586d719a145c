import java.util.ArrayList;
import java.util.Arrays;
import java.util.List;

/** A call that is refused changes nothing, and of several refusals that one is answered which stands first. */
public final class RefusalsTest {
    private static final Due due = new Due();

    private record Refused(int want, String call, int... args) {
        @Override
        public String toString() {
            return call + Arrays.toString(args);
        }
    }

    private static Refused is(int want, String call, int... args) {
        return new Refused(want, call, args);
    }

    public static void main(String[] args) {
        changesNothing();
        whereAllIsFull();
        whereNothingIs();
        usesUpTheTape();
        usesUpWhatWaits();
        firstOfSeveral();
        due.end();
    }

    /** One of each kind of refusal that Face.rich() can answer. */
    private static List<Refused> refusals() {
        return List.of(is(Due.BAD, "weight", 6, 5), is(Due.BAD, "weight", 0, 1000), is(Due.BAD, "told", 6, 0),
            is(Due.BAD, "told", 0, 7), is(Due.BAD, "as", 6, 0), is(Due.BAD, "as", 0, 6), is(Due.KIND, "as", 0, 1),
            is(Due.BAD, "turns", 6, 0), is(Due.BAD, "turns", 0, 6), is(Due.BAD, "turns", 0, -1), is(Due.BAD, "file", 6, 5),
            is(Due.BAD, "file", 0, 1000), is(Due.BAD, "file", 0, -1), is(Due.BAD, "arm", 4, 0, 99), is(Due.BAD, "arm", 0, 2, 99),
            is(Due.BAD, "arm", 0, 0, 89), is(Due.BAD, "arm", 0, 0, 111), is(Due.BAD, "arm", 0, -1, 99), is(Due.BAD, "deal", 0),
            is(Due.BAD, "deal", 11), is(Due.BAD, "weigh", 4, 1, 2), is(Due.BAD, "weigh", 0, 64, 1), is(Due.BAD, "weigh", 0, 1, 64),
            is(Due.BAD, "weigh", 0, 65, 2), is(Due.BAD, "weigh", 0, 1, -2), is(Due.NO, "weigh", 0, 3, 1), is(Due.NO, "weigh", 0, 0, 0),
            is(Due.BAD, "said", 4, 1, 2), is(Due.NO, "said", 0, 1, 1), is(Due.BAD, "fall", 6), is(Due.BAD, "fall", -1),
            is(Due.BAD, "shoot", 6, 1), is(Due.BAD, "shoot", 0, 0), is(Due.BAD, "shoot", 0, 1000), is(Due.BAD, "days", 0),
            is(Due.BAD, "days", 61), is(Due.BAD, "page", 0, 4), is(Due.NONE, "page", 1, 0), is(Due.BAD, "behind", 0, 501),
            is(Due.BAD, "lasts", 0, 0), is(Due.BAD, "canWeigh", 64), is(Due.BAD, "smallest", 0), is(Due.NONE, "smallest", 999),
            is(Due.BAD, "gain", 0, 0), is(Due.NONE, "gain", 1, 1), is(Due.BAD, "pound", 2), is(Due.NONE, "falseOne"),
            is(Due.BAD, "fine", 6), is(Due.FULL, "feed", 1, 2, 3), is(Due.BAD, "trim", -1), is(Due.BAD, "trim", 97),
            is(Due.BAD, "textTold", 13, 0), is(Due.BAD, "why", 3), is(Due.NONE, "why", 2), is(Due.BAD, "sheet", 4, 0, 5),
            is(Due.BAD, "sheet", 0, 2, 5), is(Due.BAD, "sheet", 0, 0, 25), is(Due.SIZE, "sheet", 0, 0, -1),
            is(Due.SIZE, "sheet", 1, 1, -1), is(Due.SIZE, "sheet", 3, 1, -1), is(Due.BAD, "sheet", 3, 1, 25),
            is(Due.BAD, "mark", 4, 0, 5), is(Due.NOTHING, "mark", 3, 0, 5), is(Due.INDEX, "mark", 0, 24, 5),
            is(Due.INDEX, "mark", 1, 6, 5), is(Due.KIND, "mark", 0, 0, Due.NONE), is(Due.BAD, "mark", 1, 0, 100000),
            is(Due.BAD, "pour", 4), is(Due.NOTHING, "pour", 3), is(Due.BAD, "reads", 4, 0), is(Due.BAD, "reads", 0, 6),
            is(Due.NOTHING, "reads", 3, 0), is(Due.BAD, "copy", 4, 0, 1, 0, 1), is(Due.BAD, "copy", 1, 0, 4, 0, 1),
            is(Due.NOTHING, "copy", 3, 0, 1, 0, 1), is(Due.NOTHING, "copy", 1, 0, 3, 0, 1), is(Due.KIND, "copy", 0, 3, 1, 0, 1),
            is(Due.KIND, "copy", 1, 2, 0, 0, 1), is(Due.INDEX, "copy", 1, 2, 2, 0, 4), is(Due.INDEX, "copy", 1, 2, 2, 2, 2),
            is(Due.INDEX, "copy", 1, 2, 1, 0, -1), is(Due.BAD, "lay", 5, 3, 5), is(Due.BAD, "lay", 0, 4, 5),
            is(Due.BAD, "lay", 2, 1, 6), is(Due.BAD, "lay", 2, 2, 4), is(Due.NOTHING, "lay", 2, 2, 3), is(Due.NOTHING, "lay", 0, 2, 3),
            is(Due.NOTHING, "lay", 1, 2, 3), is(Due.BAD, "lay", 1, 1, -1), is(Due.BAD, "ask", 5, 0), is(Due.NOTHING, "ask", 3, 0),
            is(Due.KIND, "ask", 1, 0), is(Due.KIND, "ask", 0, 2), is(Due.BAD, "item", 5, 0), is(Due.NOTHING, "item", 3, 0),
            is(Due.KIND, "item", 0, 0), is(Due.INDEX, "item", 1, 6), is(Due.KIND, "item", 1, 2), is(Due.BAD, "rest", 5, 1),
            is(Due.NOTHING, "rest", 3, 1), is(Due.KIND, "rest", 0, 1), is(Due.NO, "rest", 2, 0), is(Due.BAD, "count", 10));
    }

    /**
     * All that an object can tell. It changes the object, so that it is for the last; what waits is asked
     * for by check(), what stands on the tape by text().
     */
    private static List<Integer> all(WornWeights x) {
        List<Integer> row = new ArrayList<>();
        world(x, row);
        for (int sheet = 0; sheet < 4; sheet++) {
            row.add(x.copy(sheet, 0, 0, 0, 0));
            row.add(x.copy(sheet, 0, 1, 0, 0));
        }
        for (int slot = 0; slot < 5; slot++) {
            row.add(x.ask(slot, 3));
            row.add(x.rest(slot, 1 << 30));
            row.add(x.item(slot, 2));
            row.add(x.item(slot, 3));
            row.add(x.item(slot, 6));
        }
        for (int sheet = 0; sheet < 4; sheet++) {
            row.add(x.lay(4, 2, sheet));
            for (int place : new int[] {0, 1, 2, 3, 5, 6, 23, 24}) {
                row.add(x.item(4, place));
            }
        }
        for (int i = 0; i < 8; i++) {
            row.add(x.arm(i / 2, i % 2, 100));
        }
        row.add(x.check(1));
        row.add(x.text());
        row.add(x.fine(0));
        row.add(x.back());
        world(x, row);
        return row;
    }

    private static void world(WornWeights x, List<Integer> row) {
        for (int what = 0; what < 10; what++) {
            row.add(x.count(what));
        }
        int weights = x.count(0);
        for (int i = 0; i < weights; i++) {
            for (int what = 0; what < 7; what++) {
                row.add(x.told(i, what));
            }
        }
        int pages = x.count(3);
        for (int i = 0; i < pages; i++) {
            for (int what = 0; what < 4; what++) {
                row.add(x.page(i, what));
            }
        }
        for (int i = 0; i < 14; i++) {
            row.add(x.textTold(i, 0));
            row.add(x.textTold(i, 1));
        }
        for (int key = 0; key < 3; key++) {
            row.add(x.why(key));
        }
    }

    private static void isAlike(String what, WornWeights got, WornWeights want) {
        due.is(what + ": all is as it was", all(got).equals(all(want)) ? 1 : 0, 1);
    }

    private static void changesNothing() {
        due.term(0, "A call that is refused answers one of BAD, NO, FULL, or a FINDING");
        for (Refused refused : refusals()) {
            WornWeights x = Face.rich();
            due.is(refused.toString(), Face.call(x, refused.call, refused.args), refused.want);
            isAlike(refused.toString(), x, Face.rich());
        }
    }

    private static WornWeights full() {
        WornWeights x = Face.rich();
        x.text();
        for (int i = 6; i < 10; i++) {
            x.weight(0, 200 + i);
        }
        for (int i = 0; i < 58; i++) {
            x.tell(i);
        }
        return x;
    }

    private static void whereAllIsFull() {
        due.term(0, "and changes nothing");
        for (Refused refused : List.of(is(Due.FULL, "weight", 5, 7), is(Due.FULL, "tell", 7), is(0, "deal", 3))) {
            WornWeights x = full();
            due.is(refused.toString(), Face.call(x, refused.call, refused.args), refused.want);
            isAlike(refused.toString(), x, full());
        }
        WornWeights x = full();
        due.is("a text too many", Due.text(x, "wear 77"), Due.FULL);
        isAlike("a text too many", x, full());
    }

    private static void whereNothingIs() {
        due.term(0, "NONE: there is none.");
        List<Refused> refusals = List.of(is(Due.NO, "back"), is(Due.NONE, "falseOne"), is(Due.NONE, "why", 0),
            is(Due.NONE, "smallest", 1), is(Due.NONE, "gain", 5, 0), is(Due.NONE, "page", 0, 0), is(-100, "text"),
            is(Due.NO, "check", 1), is(Due.BAD, "fall", 0));
        for (Refused refused : refusals) {
            WornWeights x = new WornWeights();
            due.is(refused.toString(), Face.call(x, refused.call, refused.args), refused.want);
            isAlike(refused.toString(), x, new WornWeights());
        }
    }

    private static void usesUpTheTape() {
        due.term(0, "(but the tape and the numbers that wait, where told)");
        WornWeights x = Face.rich();
        x.trim(5);
        due.is("a fault", x.text(), -105);
        WornWeights y = Face.rich();
        y.trim(0);
        isAlike("a fault uses up the tape and changes nothing more", x, y);
    }

    private static WornWeights withoutWaiting() {
        WornWeights x = Due.with(0, 100);
        x.keep();
        x.days(2);
        return x;
    }

    private static void usesUpWhatWaits() {
        due.promise(40, "The numbers that wait (none do then, whatever is answered)");
        int[] days = {0, 31, 1};
        int[] want = {Due.BAD, Due.BAD, 1};
        for (int i = 0; i < 3; i++) {
            WornWeights x = withoutWaiting();
            x.tell(5);
            x.tell(6);
            due.is("check(" + days[i] + ")", x.check(days[i]), want[i]);
            due.is("none wait", x.count(7), 0);
            isAlike("check(" + days[i] + ")", x, withoutWaiting());
        }
        WornWeights right = withoutWaiting();
        right.tell(100);
        right.tell(0);
        due.is("all right", right.check(1), 0);
        due.is("none wait", right.count(7), 0);
        isAlike("all right", right, withoutWaiting());
        WornWeights none = new WornWeights();
        none.tell(5);
        due.is("no image", none.check(1), Due.NO);
        due.is("none wait", none.count(7), 0);
    }

    private static void firstOfSeveral() {
        due.term(0, "of several the one that stands first with it");
        List<Refused> rows = List.of(is(Due.BAD, "weigh", 4, 1, 1), is(Due.BAD, "weigh", 4, 0, 0), is(Due.BAD, "weigh", 0, 65, 65),
            is(Due.BAD, "weigh", 0, 64, 64), is(Due.BAD, "said", -1, 1, 1), is(Due.BAD, "said", 0, 1, 65), is(Due.BAD, "page", 1, 4),
            is(Due.BAD, "page", -1, -1), is(Due.BAD, "as", 6, 1), is(Due.BAD, "gain", 1, 2), is(Due.BAD, "sheet", 4, 0, -1),
            is(Due.BAD, "sheet", 0, 2, -1), is(Due.BAD, "sheet", -1, -1, 5), is(Due.BAD, "mark", 4, 99, Due.NONE),
            is(Due.NOTHING, "mark", 3, 99, 5), is(Due.NOTHING, "mark", 3, 0, Due.NONE), is(Due.NOTHING, "mark", 3, 0, 100000),
            is(Due.INDEX, "mark", 0, 24, Due.NONE), is(Due.INDEX, "mark", 1, 6, 100000), is(Due.BAD, "reads", 3, 6),
            is(Due.BAD, "reads", 3, -1), is(Due.BAD, "copy", 4, 0, 3, 0, 1), is(Due.BAD, "copy", 3, 0, -1, 0, 1),
            is(Due.NOTHING, "copy", 0, 99, 3, 0, -1), is(Due.NOTHING, "copy", 3, 0, 1, 99, 1), is(Due.KIND, "copy", 0, -1, 1, 0, 1),
            is(Due.KIND, "copy", 1, 0, 0, 0, -1), is(Due.KIND, "copy", 1, 0, 0, 99, 0), is(Due.BAD, "lay", 5, 2, 3),
            is(Due.BAD, "lay", 0, 4, 3), is(Due.BAD, "ask", 3, 6), is(Due.BAD, "ask", 1, 6), is(Due.BAD, "ask", 5, 6),
            is(Due.NOTHING, "item", 3, 99), is(Due.KIND, "item", 0, 99), is(Due.KIND, "item", 2, -1), is(Due.BAD, "item", 5, 99),
            is(Due.BAD, "rest", 5, 0), is(Due.NOTHING, "rest", 3, 0), is(Due.KIND, "rest", 0, 0), is(Due.KIND, "rest", 1, 0));
        for (Refused refused : rows) {
            due.is(refused.toString(), Face.call(Face.rich(), refused.call, refused.args), refused.want);
        }
        WornWeights x = full();
        due.is("BAD ahead of FULL", x.weight(6, 5), Due.BAD);
        due.is("BAD ahead of FULL", x.weight(0, 0), Due.BAD);
        due.is("a fault ahead of FULL", Due.text(x, "wear"), -104);
        due.is("BAD ahead of NO", new WornWeights().check(31), Due.BAD);
        due.is("BAD ahead of NO", new WornWeights().check(0), Due.BAD);
    }
}
