import java.util.List;

/**
 * Both ends of each number that a call takes: the first too small, the least, the greatest, the first too
 * large, and the ends of an int.
 */
public final class BoundsTest {
    private static final Due due = new Due();

    /** One number of a call, the others being as they should be; below and above: what is answered outside. */
    private record Bound(int promise, String words, String call, int[] args, int at, int least, int most, int below, int above) { }

    public static void main(String[] args) {
        for (Bound bound : bounds()) {
            check(bound);
        }
        withoutWeights();
        withTenWeights();
        withoutTexts();
        due.end();
    }

    private static Bound bad(int promise, String words, String call, int at, int least, int most, int... args) {
        return new Bound(promise, words, call, args, at, least, most, Due.BAD, Due.BAD);
    }

    private static List<Bound> bounds() {
        return List.of(
            bad(2, "BAD", "weight", 0, 0, 5, 0, 9), bad(2, "BAD", "weight", 1, 1, 999, 0, 9),
            bad(3, "BAD", "told", 0, 0, 5, 0, 0), bad(3, "what 0 KIND", "told", 1, 0, 6, 0, 0),
            bad(4, "BAD: weight, kind", "as", 0, 0, 5, 0, 0), bad(4, "BAD: weight, kind", "as", 1, 0, 5, 0, 0),
            bad(5, "BAD", "turns", 0, 0, 5, 0, 0), bad(5, "BAD", "turns", 1, 0, 5, 0, 0),
            bad(6, "BAD", "file", 0, 0, 5, 0, 0), bad(6, "(0 .. 999)", "file", 1, 0, 999, 0, 0),
            bad(7, "BAD", "arm", 0, 0, 3, 0, 0, 100), bad(7, "(side 0 left, 1 right)", "arm", 1, 0, 1, 0, 0, 100),
            bad(7, "BAD", "arm", 2, 90, 110, 0, 0, 100), bad(8, "n (1 .. 10)", "deal", 0, 1, 10, 1),
            bad(10, "BAD: balance", "weigh", 0, 0, 3, 0, 1, 2),
            bad(10, "a set with one that is not there", "weigh", 1, 0, 63, 0, 1, 0),
            bad(10, "a set with one that is not there", "weigh", 2, 0, 63, 0, 0, 1),
            bad(11, "BAD; NO: likewise", "said", 0, 0, 3, 0, 1, 2), bad(11, "BAD; NO: likewise", "said", 1, 0, 63, 0, 1, 0),
            bad(11, "BAD; NO: likewise", "said", 2, 0, 63, 0, 0, 1), bad(12, "BAD", "fall", 0, 0, 5, 0),
            bad(13, "BAD", "shoot", 0, 0, 5, 0, 1), bad(13, "n (1 .. 999)", "shoot", 1, 1, 999, 0, 1),
            bad(15, "n (1 .. 60)", "days", 0, 1, 60, 1), bad(16, "BAD: what", "page", 1, 0, 3, 0, 0),
            new Bound(16, "NONE: there is no such PAGE", "page", new int[] {0, 0}, 0, 0, 0, Due.NONE, Due.NONE),
            bad(17, "BAD", "behind", 0, 0, 5, 0, 1), bad(17, "n (0 .. 500)", "behind", 1, 0, 500, 0, 1),
            bad(18, "BAD", "lasts", 0, 0, 5, 0, 1), bad(18, "g (1 .. 999)", "lasts", 1, 1, 999, 0, 1),
            bad(19, "BAD", "canWeigh", 0, 0, 63, 1), bad(20, "n (1 .. 999)", "smallest", 0, 1, 999, 1),
            bad(21, "g (1 .. 9990)", "gain", 0, 1, 9990, 1, 0), bad(21, "what 0 how many grains, 1 the set", "gain", 1, 0, 1, 1, 0),
            bad(22, "(part 0), below the line (1)", "pound", 0, 0, 1, 0), bad(24, "BAD", "fine", 0, 0, 5, 0),
            bad(26, "BAD (n above how many it has, too)", "trim", 0, 0, 96, 0), bad(28, "BAD", "textTold", 0, 0, 12, 0, 0),
            bad(28, "what 0 KEY", "textTold", 1, 0, 1, 0, 0), bad(29, "BAD", "why", 0, 0, 2, 0),
            bad(30, "BAD: sheet", "sheet", 0, 0, 3, 0, 0, 5), bad(30, "sort", "sheet", 1, -1, 1, 0, 0, 5),
            new Bound(30, "n above 24; SIZE", "sheet", new int[] {0, 0, 5}, 2, 0, 24, Due.SIZE, Due.BAD),
            new Bound(30, "n above 24; SIZE", "sheet", new int[] {0, 1, 5}, 2, 0, 24, Due.SIZE, Due.BAD),
            bad(31, "BAD: sheet", "mark", 0, 0, 3, 0, 0, 5),
            new Bound(31, "INDEX", "mark", new int[] {0, 0, 5}, 1, 0, 23, Due.INDEX, Due.INDEX),
            new Bound(31, "INDEX", "mark", new int[] {1, 0, 5}, 1, 0, 5, Due.INDEX, Due.INDEX),
            bad(31, "of floats v, -99999 .. 99999", "mark", 2, -99999, 99999, 1, 0, 5), bad(32, "BAD", "pour", 0, 0, 3, 0),
            bad(33, "BAD", "reads", 0, 0, 3, 0, 0), bad(33, "BAD", "reads", 1, 0, 5, 0, 0),
            bad(34, "BAD", "copy", 0, 0, 3, 1, 0, 1, 0, 1), bad(34, "BAD", "copy", 2, 0, 3, 1, 0, 1, 0, 1),
            new Bound(34, "INDEX", "copy", new int[] {1, 0, 2, 0, 1}, 1, 0, 5, Due.INDEX, Due.INDEX),
            new Bound(34, "INDEX", "copy", new int[] {1, 0, 2, 0, 1}, 3, 0, 2, Due.INDEX, Due.INDEX),
            new Bound(34, "INDEX (many below 0, too", "copy", new int[] {1, 0, 2, 0, 1}, 4, 0, 3, Due.INDEX, Due.INDEX),
            new Bound(34, "INDEX (many below 0, too", "copy", new int[] {2, 0, 1, 0, 1}, 4, 0, 3, Due.INDEX, Due.INDEX),
            new Bound(34, "INDEX (many below 0, too", "copy", new int[] {1, 4, 1, 0, 1}, 4, 0, 2, Due.INDEX, Due.INDEX),
            bad(35, "BAD: slot", "lay", 0, 0, 4, 0, 0, 0), bad(35, "thing", "lay", 1, 0, 3, 0, 0, 0),
            bad(35, "1 WEIGHT k", "lay", 2, 0, 5, 0, 1, 0), bad(35, "2 SHEET k", "lay", 2, 0, 3, 0, 2, 0),
            bad(36, "BAD", "ask", 0, 0, 4, 0, 0), bad(36, "of a KIND (0 .. 5)", "ask", 1, 0, 5, 0, 0),
            bad(37, "BAD: slot", "item", 0, 0, 4, 1, 0),
            new Bound(37, "INDEX", "item", new int[] {1, 0}, 1, 0, 5, Due.INDEX, Due.INDEX),
            bad(38, "BAD: slot", "rest", 0, 0, 4, 2, 7), bad(40, "n (1 .. 30;", "check", 0, 1, 30, 1),
            bad(43, "BAD", "count", 0, 0, 9, 0));
    }

    private static void check(Bound bound) {
        due.promise(bound.promise, bound.words);
        outside(bound, bound.least - 1, bound.below);
        outside(bound, bound.most + 1, bound.above);
        outside(bound, Integer.MIN_VALUE, bound.below);
        outside(bound, Integer.MAX_VALUE, bound.above);
        for (int v : new int[] {bound.least, bound.most}) {
            int got = answer(bound, v);
            boolean refused = got == bound.below || got == bound.above;
            due.is(bound.call + ", number " + bound.at + " is " + v + ", refused", refused ? 1 : 0, 0);
        }
    }

    private static void outside(Bound bound, int v, int want) {
        due.is(bound.call + ", number " + bound.at + " is " + v + ",", answer(bound, v), want);
    }

    private static int answer(Bound bound, int v) {
        int[] args = bound.args.clone();
        args[bound.at] = v;
        return Face.call(Face.rich(), bound.call, args);
    }

    private static final String[] OF_A_WEIGHT = {"fall", "fine"};
    private static final String[] OF_A_WEIGHT_AND_MORE = {"told", "as", "turns", "file", "shoot", "behind", "lasts"};

    private static void weightIsBad(WornWeights x, int weight) {
        for (String call : OF_A_WEIGHT) {
            due.is(call + "(" + weight + ")", Face.call(x, call, weight), Due.BAD);
        }
        for (String call : OF_A_WEIGHT_AND_MORE) {
            due.is(call + "(" + weight + ", 1)", Face.call(x, call, weight, 1), Due.BAD);
        }
        due.is("reads(0, " + weight + ")", x.reads(0, weight), Due.BAD);
        due.is("lay(0, 1, " + weight + ")", x.lay(0, 1, weight), Due.BAD);
    }

    private static void withoutWeights() {
        due.promise(1, "As told; no WEIGHTS.");
        WornWeights x = new WornWeights();
        weightIsBad(x, 0);
        weightIsBad(x, -1);
        due.is("canWeigh of none", x.canWeigh(0), 0);
        due.is("canWeigh of one", x.canWeigh(1), Due.BAD);
        due.is("weigh one", x.weigh(0, 1, 0), Due.BAD);
        due.is("weigh one", x.weigh(0, 0, 1), Due.BAD);
        due.is("weigh none", x.weigh(0, 0, 0), Due.NO);
        due.is("said of none", x.said(0, 0, 0), Due.NO);
        due.is("smallest", x.smallest(1), Due.NONE);
        due.is("gain", x.gain(1, 0), Due.NONE);
        due.is("falseOne", x.falseOne(), Due.NONE);
        due.is("monday", x.monday(), 0);
        due.is("days", x.days(8), 0);
        due.is("keep", x.keep(), 0);
        due.is("back", x.back(), 0);
        x.sheet(0, 0, 4);
        due.is("pour", x.pour(0), 0);
        due.is("grains of all", x.count(1), 0);
        due.is("stamps of all", x.count(2), 0);
    }

    private static void withTenWeights() {
        due.term(1, "WEIGHTS, 10 at most");
        WornWeights x = new WornWeights();
        for (int i = 0; i < 10; i++) {
            x.weight(5, 999);
        }
        weightIsBad(x, 10);
        weightIsBad(x, 11);
        due.is("all ten", x.weigh(0, 1023, 0), 1);
        due.is("an eleventh", x.weigh(0, 1024, 0), Due.BAD);
        due.is("an eleventh", x.weigh(0, 0, 1025), Due.BAD);
        due.is("the tenth", x.told(9, 3), 1);
        due.is("the tenth falls", x.fall(9), 0);
        due.is("the tenth is laid", x.lay(0, 1, 9), 0);
        due.is("grains of all", x.count(1), 9990);
        due.is("stamps of all", x.count(2), 9990);
        due.is("no room", x.deal(10), 0);
        due.is("FULL", x.weight(5, 999), Due.FULL);
    }

    private static void withoutTexts() {
        due.promise(28, "BAD");
        WornWeights x = new WornWeights();
        due.is("no text 0", x.textTold(0, 0), Due.BAD);
        due.is("trim above an empty tape", x.trim(1), Due.BAD);
        due.is("trim an empty tape", x.trim(0), 0);
        due.is("an empty tape is no text", x.text(), -100);
        for (int key = 0; key < 3; key++) {
            due.is("none counts", x.why(key), Due.NONE);
        }
    }
}
