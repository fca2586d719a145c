/** Counts answers that are not as due, and holds what several tests share. */
final class Due {
    static final int BAD = WornWeights.BAD, NO = WornWeights.NO, FULL = WornWeights.FULL, NONE = WornWeights.NONE,
        NOTHING = WornWeights.NOTHING, KIND = WornWeights.KIND, INDEX = WornWeights.INDEX, SIZE = WornWeights.SIZE;

    private int right;
    private int wrong;
    private String sentence = "";

    void is(String call, int got, int want) {
        if (got == want) {
            right++;
        } else {
            wrong++;
            System.out.println(sentence + call + " answered " + got + ", due is " + want);
        }
    }

    /** What follows looks at these words of a promise. */
    void promise(int n, String words) {
        quote("P" + n, Doc.promise(n), words);
    }

    /** What follows looks at these words of a part of 'Terms'; part 0 is what stands ahead of part 1. */
    void term(int part, String words) {
        quote("T" + part, Doc.part(part), words);
    }

    void head(String words) {
        quote("head", Doc.head(), words);
    }

    /** Words that the document no longer has are a fault of the test: its answers may not be due any more. */
    private void quote(String where, String section, String words) {
        sentence = where + " '" + words + "': ";
        is("the document has these words", section.contains(words) ? 1 : 0, 1);
    }

    void end() {
        System.out.println(right + " answers as due, " + wrong + " not");
        if (wrong != 0 || right == 0) {
            System.exit(1);
        }
    }

    /** Brings a text to the tape, behind what stands there. */
    static void tape(WornWeights x, String text) {
        int before = x.count(8);
        for (int i = 0; i < text.length(); i += 12) {
            x.feed(word(text, i), word(text, i + 4), word(text, i + 8));
        }
        x.trim(before + text.length());
    }

    static int text(WornWeights x, String text) {
        tape(x, text);
        return x.text();
    }

    static int word(String text, int from) {
        int v = 0;
        for (int i = from; i < from + 4; i++) {
            v = v << 8 | (i < text.length() ? text.charAt(i) & 255 : 0);
        }
        return v;
    }

    /** A z behind which the draws' rests are these: pairs of a divisor and its rest, one pair for each draw. */
    static int seedFor(int... divisorsAndRests) {
        for (int seed = 1; seed < 100_000_000; seed++) {
            int z = seed;
            boolean fits = true;
            for (int i = 0; i < divisorsAndRests.length && fits; i += 2) {
                z = z * 1103515245 + 12345;
                fits = (z >>> 8) % divisorsAndRests[i] == divisorsAndRests[i + 1];
            }
            if (fits) {
                return seed;
            }
        }
        throw new IllegalArgumentException("no such z");
    }

    /** A new object with one WEIGHT for each pair of KIND and STAMP. */
    static WornWeights with(int... kindsAndStamps) {
        WornWeights x = new WornWeights();
        for (int i = 0; i < kindsAndStamps.length; i += 2) {
            x.weight(kindsAndStamps[i], kindsAndStamps[i + 1]);
        }
        return x;
    }
}
