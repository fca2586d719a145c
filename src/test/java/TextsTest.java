/** Promises 25 to 29, and what a TEXT gives. */
public final class TextsTest {
    private static final Due due = new Due();

    public static void main(String[] args) {
        feed();
        trim();
        text();
        faults();
        nests();
        values();
        full();
        textTold();
        why();
        due.end();
    }

    private static void feed() {
        due.promise(25, "Twelve bytes come to THE TAPE, the highest of each number first: how many it has. FULL: it would have more than 96.");
        WornWeights x = new WornWeights();
        for (int i = 1; i <= 8; i++) {
            due.is("P25 bytes", x.feed(i, -1, 0), 12 * i);
        }
        due.is("P25 full", x.feed(0, 0, 0), Due.FULL);
        due.is("P25 as it was", x.count(8), 96);
        x.trim(85);
        due.is("P25 full", x.feed(0, 0, 0), Due.FULL);
        x.trim(84);
        due.is("P25 room again", x.feed(0, 0, 0), 96);
        WornWeights y = new WornWeights();
        y.feed(0x66696e65, 0x20313233, 0x2b342020);
        due.is("P25 the highest first: 'fine 123+4  '", y.text(), 0);
        y.weight(0, 1);
        due.is("P25 it was read", y.fine(0), 127);
    }

    private static void trim() {
        due.promise(26, "THE TAPE keeps its first n bytes: n. BAD (n above how many it has, too).");
        WornWeights x = new WornWeights();
        due.is("P26 0", x.trim(0), 0);
        due.is("P26 above", x.trim(1), Due.BAD);
        due.is("P26 below", x.trim(-1), Due.BAD);
        x.feed(1, 2, 3);
        due.is("P26 above", x.trim(13), Due.BAD);
        due.is("P26 all", x.trim(12), 12);
        due.is("P26 5", x.trim(5), 5);
        due.is("P26 above", x.trim(6), Due.BAD);
        due.is("P26 count", x.count(8), 5);
        Due.tape(x, "abc");
        due.is("P26 goes on behind", x.count(8), 8);
        WornWeights y = Due.with(0, 1);
        Due.tape(y, "fine 123");
        due.is("P26 the first seven", y.trim(7), 7);
        due.is("P26 they are a text", y.text(), 0);
        due.is("P26 they are the first", y.fine(0), 12);
    }

    private static void text() {
        due.promise(27, "THE TAPE is a TEXT: its number. -100 less the place of its FAULT; FULL.");
        WornWeights x = new WornWeights();
        due.is("P27 0", Due.text(x, "wear 1"), 0);
        due.is("P27 the tape is used up", x.count(8), 0);
        due.is("P27 1", Due.text(x, "  law   s*9/10  "), 1);
        due.is("P27 2", Due.text(x, "fine(l)"), 2);
        due.is("P27 3", Due.text(x, "wear!g"), 3);
        due.is("P27 4", Due.text(x, "wear 0007|t&s=g<1"), -100 - 15);
        due.is("P27 a fault uses it up too", x.count(8), 0);
        due.is("P27 how many", x.count(6), 4);
    }

    private static void fault(String text, int place) {
        WornWeights x = new WornWeights();
        due.is("P27 '" + text + "'", Due.text(x, text), -100 - place);
        due.is("P27 no text", x.count(6), 0);
        due.is("P27 tape used up", x.count(8), 0);
    }

    private static void faults() {
        fault("", 0);
        fault("   ", 3);
        fault("wear", 4);
        fault("wear  ", 6);
        fault("wea g", 0);
        fault("wears", 0);
        fault(" wearg", 1);
        fault("Wear g", 0);
        fault("5", 0);
        fault("wear5", 4);
        fault("wear 5 5", 7);
        fault("wear 5g", 6);
        fault("wear g5", 6);
        fault("wear gg", 5);
        fault("wear 12345", 5);
        fault("wear12345", 4);
        fault("wear 00001", 5);
        fault("wear d", 5);
        fault("wear l", 5);
        fault("law g", 4);
        fault("law t", 4);
        fault("law l", 4);
        fault("fine g", 5);
        fault("fine s", 5);
        fault("fine d", 5);
        fault("wear g+", 7);
        fault("wear +g", 5);
        fault("wear -1", 5);
        fault("wear g+*s", 7);
        fault("wear g<s<t", 8);
        fault("wear g=s>t", 8);
        fault("wear (g<s=t)", 9);
        fault("wear ()", 6);
        fault("wear (g", 7);
        fault("wear (g ", 8);
        fault("wear g)", 6);
        fault("wear (g))", 8);
        fault("wear (g s", 8);
        fault("wear g!", 6);
        fault("wear g!s", 6);
        fault("wear g(s)", 6);
        fault("wear !", 6);
        fault("wear !)", 6);
        fault("wear g||s", 7);
        fault("wear g<=s", 7);
        fault("wear g\ts", 6);
        fault("wear\ng", 4);
        fault("wear " + (char) 0, 5);
        fault("wear " + (char) 255, 5);
        fault("wear g" + (char) 0, 6);
        fault("wear g" + (char) 255, 6);
        fault("" + (char) 0, 0);
        fault("xear g", 0);
        fault("wead g", 0);
        fault("kaw s", 0);
        fault("gine l", 0);
        fault("wear )", 5);
        fault("(wear g)", 0);
        fault("wear wear", 5);
        fault("wear g #", 7);
        fault("wear g, s d f g 12345", 6);
        fault(" ".repeat(92) + "wear", 96);
        fault("wear " + "g+".repeat(45) + "+", 95);
    }

    private static void nests() {
        WornWeights x = Due.with(0, 20);
        due.is("8 (", Due.text(x, "fine ((((((((3))))))))"), 0);
        due.is("8 ( gives", x.fine(0), 3);
        fault("fine (((((((((3)))))))))", 13);
        fault("fine ((((((((3)))))))+(((((((((1", 29);
        due.is("( by the side don't count", Due.text(x, "fine (((((((3)))))))+((((((((4))))))))"), 1);
        due.is("( by the side gives", x.fine(0), 7);
        due.is("8 !", Due.text(x, "fine !!!!!!!!3"), 2);
        due.is("8 ! gives", x.fine(0), 1);
        fault("fine !!!!!!!!!3", 13);
        fault("fine ! ! ! ! ! ! ! ! ! 3", 21);
        due.is("! is open till its piece ends", Due.text(x, "fine !!!!!!!!3+!!!!!!!!3"), 3);
        due.is("! gives", x.fine(0), 2);
        due.is("8 ! over brackets", Due.text(x, "fine !(!!!(!!!!0+!!!!7)+1)"), 4);
        due.is("8 ! over brackets gives", x.fine(0), 0);
        fault("fine !!!!(!!!!0+!!!!!7)", 20);
        due.is("both, each by itself", Due.text(x, "fine !(!(!(!(!(!(!(!(5))))))))"), 5);
        due.is("both give", x.fine(0), 1);
        fault("fine !(!(!(!(!(!(!(!((", 21);
        fault("fine !(!(!(!(!(!(!(!(!", 21);
    }

    private static void value(String text, int want) {
        WornWeights x = Due.with(5, 100);
        x.weigh(0, 1, 0);
        x.weigh(0, 1, 0);
        x.weigh(0, 1, 0);
        x.file(0, 93);
        due.is("'" + text + "' is a text", Due.text(x, text), 0);
        due.is("'" + text + "' gives", x.fine(0), want);
    }

    private static void values() {
        value("fine l", 7);
        value("fine t", 3);
        value("fine 2+3*4", 14);
        value("fine (2+3)*4", 20);
        value("fine 20-3-4", 13);
        value("fine 100/7/2", 7);
        value("fine 100/7*2", 28);
        value("fine (0-7)/2", -3);
        value("fine 5/0", 0);
        value("fine 5/(1-1)+1", 1);
        value("fine 9999*9999*9999", 9999 * 9999 * 9999);
        value("fine (0-4096*4096*128)/(0-1)", Integer.MIN_VALUE);
        value("fine 1<2", 1);
        value("fine 2<1", 0);
        value("fine 2>1", 1);
        value("fine 2=2", 1);
        value("fine 2=3", 0);
        value("fine 2<2|2>2", 0);
        value("fine 1+1=2", 1);
        value("fine 7|0", 1);
        value("fine 0|0", 0);
        value("fine 7&8", 1);
        value("fine 7&0", 0);
        value("fine 1|0&0", 1);
        value("fine (1|0)&0", 0);
        value("fine 0&0|1", 1);
        value("fine 0&(0|1)", 0);
        value("fine 1&2<1", 0);
        value("fine !5", 0);
        value("fine !0", 1);
        value("fine !0+1", 2);
        value("fine !0*5", 5);
        value("fine !!5", 1);
        value("fine !(l<t)", 1);
        value("fine(l=7)*(t=3)*100", 100);
        value("fine 0009", 9);
        value("fine (1<2)<2", 1);
    }

    private static void full() {
        WornWeights x = new WornWeights();
        for (int i = 0; i < 14; i++) {
            due.is("P27 number", Due.text(x, "law s"), i);
        }
        due.is("P27 full", Due.text(x, "law d"), Due.FULL);
        due.is("P27 full uses the tape up", x.count(8), 0);
        due.is("P27 a fault ahead of full", Due.text(x, "law x"), -104);
        due.is("P27 14", x.count(6), 14);
        due.is("P27 the last counts", x.why(1), 13);
    }

    private static void textTold() {
        due.promise(28, "Of a TEXT: what 0 KEY (0 wear, 1 law, 2 fine), 1 how many NUMBERS and NAMES it has. BAD.");
        WornWeights x = new WornWeights();
        Due.text(x, "law s*(9+d)-!0");
        Due.text(x, "fine 1");
        Due.text(x, "wear g/(10+t)");
        int[] keys = {1, 2, 0};
        int[] many = {4, 1, 3};
        for (int i = 0; i < 3; i++) {
            due.is("P28 key", x.textTold(i, 0), keys[i]);
            due.is("P28 numbers and names", x.textTold(i, 1), many[i]);
        }
        due.is("P28 bad", x.textTold(3, 0), Due.BAD);
        due.is("P28 bad", x.textTold(-1, 0), Due.BAD);
        due.is("P28 bad", x.textTold(0, 2), Due.BAD);
        due.is("P28 bad", x.textTold(0, -1), Due.BAD);
    }

    private static void why() {
        due.promise(29, "The TEXT that counts for a KEY. BAD; NONE.");
        WornWeights x = new WornWeights();
        due.is("P29 bad", x.why(-1), Due.BAD);
        due.is("P29 bad", x.why(3), Due.BAD);
        due.is("P29 none", x.why(0), Due.NONE);
        Due.text(x, "wear 1");
        Due.text(x, "law 1");
        Due.text(x, "wear 2");
        due.is("P29 wear", x.why(0), 2);
        due.is("P29 law", x.why(1), 1);
        due.is("P29 fine", x.why(2), Due.NONE);
        Due.text(x, "fine 1");
        due.is("P29 fine", x.why(2), 3);
        Due.text(x, "fine");
        due.is("P29 not a fault", x.why(2), 3);
        due.is("P29 wear still", x.why(0), 2);
    }
}
