/** Counts answers that are not as due, and holds what several tests share. */
final class Due {
    static final int BAD = WornWeights.BAD, NO = WornWeights.NO, FULL = WornWeights.FULL, NONE = WornWeights.NONE,
        NOTHING = WornWeights.NOTHING, KIND = WornWeights.KIND, INDEX = WornWeights.INDEX, SIZE = WornWeights.SIZE;

    private int right;
    private int wrong;

    void is(String call, int got, int want) {
        if (got == want) {
            right++;
        } else {
            wrong++;
            System.out.println(call + " answered " + got + ", due is " + want);
        }
    }

    void end() {
        System.out.println(right + " answers as due, " + wrong + " not");
        if (wrong != 0 || right == 0) {
            System.exit(1);
        }
    }

    /** Brings a text to the tape, behind what stands there. */
    static void tape(WornWeights x, String text) {
        int before = x.count(8);
        for (int i = 0; i < text.length(); i += 12) {
            x.feed(word(text, i), word(text, i + 4), word(text, i + 8));
        }
        x.trim(before + text.length());
    }

    static int text(WornWeights x, String text) {
        tape(x, text);
        return x.text();
    }

    static int word(String text, int from) {
        int v = 0;
        for (int i = from; i < from + 4; i++) {
            v = v << 8 | (i < text.length() ? text.charAt(i) & 255 : 0);
        }
        return v;
    }

    /** A new object with one WEIGHT for each pair of KIND and STAMP. */
    static WornWeights with(int... kindsAndStamps) {
        WornWeights x = new WornWeights();
        for (int i = 0; i < kindsAndStamps.length; i += 2) {
            x.weight(kindsAndStamps[i], kindsAndStamps[i + 1]);
        }
        return x;
    }
}
