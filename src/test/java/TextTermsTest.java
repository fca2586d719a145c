/** 'Terms', part 4: each sentence that names an end, a FAULT or a case by itself; each byte in each kind of place. */
public final class TextTermsTest {
    private static final Due due = new Due();
    private static final String SIGNS = "|&<=>+-*/";

    public static void main(String[] args) {
        fourteenTexts();
        ninetySixBytes();
        usedUp();
        keys();
        oneTestSign();
        rowsOfTests();
        rowsOfPieces();
        pieces();
        looseAndTight();
        numbers();
        namesOfWear();
        namesOfLaw();
        namesOfFine();
        missingBelow0();
        fineWithoutText();
        words();
        anyOtherByte();
        blanks();
        wordNeedsBlank();
        firstFault();
        ninthOpen();
        ninthNot();
        eachByItself();
        endTooSoon();
        intsWrap();
        byZero();
        oneOrZero();
        bothSides();
        lastCounts();
        due.end();
    }

    /** What a new object answers for a TEXT. */
    private static int read(String text) {
        return Due.text(new WornWeights(), text);
    }

    private static void isText(String text) {
        due.is("'" + text + "'", read(text), 0);
    }

    private static void isFault(String text, int place) {
        due.is("'" + text + "'", read(text), -100 - place);
    }

    /** What a TEXT of fine gives, with 3 GRAINS missing and TIMES 2. */
    private static void gives(String e, int want) {
        WornWeights x = Due.with(5, 10);
        x.weigh(0, 1, 0);
        x.weigh(0, 1, 0);
        x.file(0, 7);
        due.is("'" + e + "' is read", Due.text(x, "fine " + e), 0);
        due.is("'" + e + "'", x.fine(0), want);
    }

    private static void fourteenTexts() {
        due.term(4, "TEXTS, 14 at most, numbered from 0");
        WornWeights x = Due.with(5, 10);
        due.is("none at first", x.textTold(0, 0), Due.BAD);
        for (int i = 0; i < 14; i++) {
            due.is("number", Due.text(x, "fine " + (20 + i)), i);
            due.is("it counts", x.fine(0), 20 + i);
        }
        due.is("the fifteenth", Due.text(x, "fine 1"), Due.FULL);
        due.is("of another key", Due.text(x, "wear 1"), Due.FULL);
        due.is("14 still", x.count(6), 14);
        due.is("number 13", x.textTold(13, 0), 2);
        due.is("number 14", x.textTold(14, 0), Due.BAD);
        due.is("the fourteenth counts", x.fine(0), 33);
        due.is("no wear", x.why(0), Due.NONE);
    }

    private static void ninetySixBytes() {
        due.term(4, "numbered from 0, from THE TAPE (96 bytes at most");
        WornWeights x = Due.with(5, 10);
        String longest = "fine " + "1+".repeat(45) + "1";
        due.is("its bytes", longest.length(), 96);
        due.is("read to its last byte", Due.text(x, longest), 0);
        due.is("what it gives", x.fine(0), 46);
        due.is("how many numbers", x.textTold(0, 1), 46);
        isFault("fine " + "1+".repeat(45) + "+", 95);
        isFault("fine " + "1+".repeat(45) + " ", 96);
        isText(" ".repeat(90) + "fine 1");
        isText("fine 1" + " ".repeat(90));
        due.is("full", x.feed(0, 0, 0), 12);
        for (int i = 24; i <= 96; i += 12) {
            due.is("it has", x.feed(0, 0, 0), i);
        }
        due.is("no more", x.feed(0, 0, 0), Due.FULL);
    }

    private static void usedUp() {
        due.term(4, "an act that reads it uses it up, whatever it answers");
        WornWeights x = new WornWeights();
        String[] texts = {"wear 1", "wear x", "", "     ", "wear (", "nothing at all"};
        for (String text : texts) {
            Due.text(x, text);
            due.is("behind '" + text + "'", x.count(8), 0);
            due.is("nothing is left of it", x.text(), -100);
        }
        for (int i = 0; i < 14; i++) {
            Due.text(x, "law " + i);
        }
        due.is("FULL", Due.text(x, "law 5"), Due.FULL);
        due.is("behind FULL", x.count(8), 0);
        Due.tape(x, "fine");
        x.trim(0);
        due.is("trimmed", x.count(8), 0);
    }

    private static void keys() {
        due.term(4, "KEY E. KEY: wear | law | fine.");
        isText("wear 1");
        isText("law 1");
        isText("fine 1");
        String[] others = {"wea 1", "wearr 1", "ear 1", "w 1", "la 1", "laws 1", "aw 1", "fin 1", "fines 1", "ine 1", "lawfine 1",
            "Wear 1", "LAW 1", "1", "g", "(wear 1)", "!wear 1", "worth 1", "gear 1", "lax 1", "fire 1"};
        for (String text : others) {
            isFault(text, 0);
        }
        isFault("w ear 1", 0);
        isFault("wear", 4);
        isFault("wear law 1", 5);
        isFault("wear 1 wear 1", 7);
    }

    private static void oneTestSign() {
        due.term(4, "TEST: SUM [ (< | = | >) SUM ]");
        isFault("fine 1<2<3", 8);
        isFault("fine 1<2=3", 8);
        isFault("fine 1+1>2+2=3", 12);
        isFault("fine (1<2>3)", 9);
        isFault("fine 1<2&3=4>5", 12);
        gives("1<2&2<3|3<2", 1);
        gives("(1<2)<2", 1);
        gives("2<(1<2)", 0);
        gives("(1<2)=(2>1)&1", 1);
    }

    private static void rowsOfTests() {
        due.term(4, "OR: AND { | AND }; AND: TEST { & TEST };");
        gives("0|0|0|0", 0);
        gives("0|0|0|9", 1);
        gives("1&1&1&1", 1);
        gives("1&0&1&1", 0);
        gives("0&1|1&0|1&1", 1);
        gives("0&1|1&0|0&1", 0);
        gives("1<2&2<3&3<4", 1);
        gives("1<2&3<2&3<4", 0);
        gives("1>2|2>3|4>3", 1);
        isFault("fine |1", 5);
        isFault("fine 1|", 7);
        isFault("fine 1|&1", 7);
        isFault("fine 1&|1", 7);
    }

    private static void rowsOfPieces() {
        due.term(4, "SUM: TERM { (+ | -) TERM }; TERM: PIECE { (* | /) PIECE };");
        gives("1+2+3+4", 10);
        gives("1-2-3-4", -8);
        gives("1-2+3-4", -2);
        gives("1*2*3*4", 24);
        gives("100/2/5", 10);
        gives("100/2*5", 250);
        gives("5*7/2", 17);
        gives("2*3+4*5-6/2", 23);
        isFault("fine *1", 5);
        isFault("fine 1*", 7);
        isFault("fine 1*/2", 7);
        isFault("fine 1+*2", 7);
    }

    private static void pieces() {
        due.term(4, "| NAME | ! PIECE | ( E ). NAMES, each one letter:");
        gives("l", 3);
        gives("(l)", 3);
        gives("((l))", 3);
        gives("!l", 0);
        gives("!!l", 1);
        gives("!(l)", 0);
        gives("(!l)", 0);
        gives("(0|l<5&t)+1", 2);
        gives("!(l<t)+!(t<l)", 1);
        isFault("fine lt", 5);
        isFault("fine ll", 5);
        isFault("fine (l", 7);
        isFault("fine l t", 7);
    }

    private static void looseAndTight() {
        due.term(4, "E, the loosest first");
        gives("1|0&0", 1);
        gives("0&0|1", 1);
        gives("0&1<1", 0);
        gives("1<1+1", 1);
        gives("1+2*3", 7);
        gives("2*3+1", 7);
        gives("8-6/2", 5);
        gives("!1+1", 1);
        gives("!0*7", 7);
        gives("10-4-3", 3);
        gives("10-4+3", 9);
        gives("48/4/3", 4);
        gives("48/4*3", 36);
        gives("7/2*2", 6);
        gives("7*2/4", 3);
        gives("(1|0)&0", 0);
        gives("(1+2)*3", 9);
        gives("!(1+1)", 0);
        gives("10-(4-3)", 9);
    }

    private static void numbers() {
        due.term(4, "PIECE: NUMBER (1 to 4 digits)");
        gives("0", 0);
        gives("9", 9);
        gives("0000", 0);
        gives("0010", 10);
        gives("9999", 9999);
        isFault("fine 10000", 5);
        isFault("fine 00000", 5);
        isFault("fine 1+12345", 7);
        isFault("fine 12345678901234567890", 5);
        isFault("fine 1 2", 7);
    }

    private static void names(String key, String names) {
        int place = key.length() + 1;
        for (char c = 'a'; c <= 'z'; c++) {
            boolean is = names.indexOf(c) >= 0;
            due.is(key + " " + c, read(key + " " + c), is ? 0 : -100 - place);
            due.is(key + " 1+" + c, read(key + " 1+" + c), is ? 0 : -100 - place - 2);
            due.is(key + " " + c + c, read(key + " " + c + c), -100 - place);
        }
    }

    private static void namesOfWear() {
        due.term(4, "of wear g GRAINS, t TIMES, s STAMP");
        names("wear", "gts");
        String[] texts = {"wear g", "wear t", "wear s"};
        int[] want = {90, 2, 60};
        WornWeights x = Due.with(5, 60);
        x.weigh(0, 1, 0);
        x.weigh(0, 1, 0);
        x.turns(0, 0);
        x.file(0, 90);
        for (int i = 0; i < 3; i++) {
            Due.text(x, texts[i] + "-1");
            due.is(texts[i], x.told(0, 4), want[i] - 1);
        }
    }

    private static void namesOfLaw() {
        due.term(4, "of law s, d THE DAY");
        names("law", "sd");
        WornWeights x = Due.with(5, 60);
        x.days(5);
        Due.text(x, "law s*10+d");
        x.file(0, 0);
        due.is("s and d", x.monday(), 605);
    }

    private static void namesOfFine() {
        due.term(4, "of fine l how many GRAINS are missing");
        names("fine", "lt");
        gives("l", 3);
        gives("t", 2);
    }

    private static void missingBelow0() {
        due.term(4, "how many GRAINS are missing (STAMP less GRAINS; in a TEXT below 0, too), t");
        WornWeights x = Due.with(5, 1, 5, 999);
        x.file(0, 999);
        x.file(1, 0);
        Due.text(x, "fine l");
        due.is("the least", x.fine(0), -998);
        due.is("the greatest", x.fine(1), 999);
        Due.text(x, "fine l<0");
        due.is("it is below 0 within the text", x.fine(0), 1);
    }

    private static void fineWithoutText() {
        due.term(4, "(what fine gives for a WEIGHT is told by fine(); without a TEXT: l, 0 at least)");
        WornWeights x = Due.with(5, 10);
        Due.text(x, "wear 5");
        Due.text(x, "law 5");
        int[] grains = {0, 9, 10, 11, 999};
        int[] want = {10, 1, 0, 0, 0};
        for (int i = 0; i < grains.length; i++) {
            x.file(0, grains[i]);
            due.is("with " + grains[i], x.fine(0), want[i]);
        }
    }

    private static void words() {
        due.term(4, "A word is a row of letters a .. z, or of digits, as long as it goes");
        isFault("wearg", 0);
        isFault("weart 1", 0);
        isFault("wear gts", 5);
        isFault("wear g1", 6);
        isFault("wear 1g", 6);
        isFault("wear 1234g", 9);
        isFault("wear 12345g", 5);
        isFault("wear gG", 6);
        isFault("wear G", 5);
        isText("wear(g)");
        isText("wear!g");
        isText("wear g+1234-t*s");
    }

    private static boolean isDigit(int b) {
        return b >= '0' && b <= '9';
    }

    private static boolean isLetter(int b) {
        return b >= 'a' && b <= 'z';
    }

    private static boolean isSign(int b) {
        return SIGNS.indexOf(b) >= 0;
    }

    /** Each byte at each kind of place: ahead of the KEY, behind it, for a PIECE, behind a PIECE, at the end. */
    private static void anyOtherByte() {
        due.term(4, "any other byte is a sign by itself");
        for (int b = 0; b < 256; b++) {
            String c = "" + (char) b;
            String what = "byte " + b + " ";
            int ok = 0;
            due.is(what + "ahead of the key", read(c + "wear 1"), b == ' ' ? ok : -100);
            due.is(what + "behind the key", read("wear" + c + "1"), b == ' ' || b == '!' ? ok : isLetter(b) ? -100 : b == '(' ? -106 : -104);
            boolean piece = isDigit(b) || "gts".indexOf(b) >= 0;
            due.is(what + "for a piece", read("wear " + c), piece ? ok : " (!".indexOf(b) >= 0 ? -106 : -105);
            due.is(what + "behind a number", read("wear 1" + c + "1"), isDigit(b) || isSign(b) ? ok : b == ' ' ? -107 : -106);
            due.is(what + "behind a name", read("wear g" + c + "1"), isSign(b) ? ok : isLetter(b) ? -105 : b == ' ' ? -107 : -106);
            due.is(what + "behind a bracket", read("wear (1)" + c + "1"), isSign(b) ? ok : b == ' ' ? -109 : -108);
            due.is(what + "at the end", read("wear 1" + c), isDigit(b) || b == ' ' ? ok : isSign(b) ? -107 : -106);
            boolean goesOn = isDigit(b) || isSign(b) || b == ' ';
            due.is(what + "in a bracket", read("wear (1" + c), b == ')' ? ok : goesOn ? -108 : -107);
            due.is(what + "behind !", read("wear !" + c), piece ? ok : " (!".indexOf(b) >= 0 ? -107 : -106);
        }
    }

    private static void blanks() {
        due.term(4, "Between words and signs, and at the ends, there may be blanks (byte 32)");
        gives("  (  1  +  2  )  *  !  0  ", 3);
        isText("     wear     g     ");
        isText("wear(g+!t)");
        isFault("w ear g", 0);
        isFault("wear 1 0", 7);
        isFault("wear g t", 7);
        isFault("wear\t1", 4);
        isFault("wear 1\n", 6);
        isFault("wear 1" + (char) 0, 6);
        isFault("wear 1" + (char) 160, 6);
        isFault("wear" + (char) 31 + "1", 4);
        isFault("wear" + (char) 33 + (char) 33, 6);
    }

    private static void wordNeedsBlank() {
        due.term(4, "a word right behind another one needs one");
        isFault("wear1", 4);
        isFault("law1", 3);
        isFault("fine12", 4);
        isFault("fine12345", 4);
        isFault("1fine", 0);
        isFault("fine 1l", 6);
        isFault("fine l1", 6);
        isFault("fine (1l)", 7);
        isFault("fine 1+2t", 8);
        isFault("fine 1 l", 7);
        isText("fine(1)");
        isText("fine!1");
    }

    private static void firstFault() {
        due.term(4, "FAULT: the first byte of the first word or sign with which no TEXT goes on"
            + " (a word that needs a blank ahead of it, a NUMBER of more than 4 digits,");
        isFault("fine 1 ) 12345 x ((", 7);
        isFault("fine   12345   12345", 7);
        isFault("  fines  x", 2);
        isFault("fine 1 +   xyz + x", 11);
        isFault("fine 1   +   )", 13);
        isFault("fine )", 5);
        isFault("fine ()", 6);
        isFault("fine (1+)", 8);
        isFault("fine 1)", 6);
        isFault("fine (1))", 8);
        isFault("fine 1(", 6);
        isFault("fine 1!", 6);
        isFault("fine (1)(", 8);
        isFault("fine (1)1", 8);
        isFault("fine (1)l", 8);
        isFault("fine +1", 5);
        isFault("fine -1", 5);
        isFault("fine 1--1", 7);
        isFault("fine 1<=2", 7);
        isFault("fine 1=<2", 7);
        isFault("fine 1&&2", 7);
        isFault("fine 1!=2", 6);
        isFault("fine !", 6);
        isFault("fine !+1", 6);
        WornWeights x = new WornWeights();
        for (int i = 0; i < 3; i++) {
            due.is("a fault at a word", Due.text(x, "x"), -100);
            due.is("a fault behind a blank", Due.text(x, "fine x"), -105);
            due.is("a text behind a fault", Due.text(x, "fine 1"), i);
            due.is("a fault at a sign", Due.text(x, "+"), -100);
        }
    }

    private static void ninthOpen() {
        due.term(4, "the ninth ( that would be open within others (the outermost counted)");
        gives("((((((((5))))))))", 5);
        isFault("fine (((((((((5)))))))))", 13);
        isFault("fine ( ( ( ( ( ( ( ( ( 5", 21);
        gives("((((((((5))))))))+((((((((6))))))))", 11);
        gives("(((((((1+(2))))))))*2", 6);
        isFault("fine (((((((1+(2+(3)))))))))", 17);
        isFault("fine (((((((1+(2)+((3", 19);
        gives("(1)+(1)+(1)+(1)+(1)+(1)+(1)+(1)+(1)+(1)", 10);
    }

    private static void ninthNot() {
        due.term(4, "the ninth ! likewise (open till its PIECE ends)");
        gives("!!!!!!!!5", 1);
        gives("!!!!!!!5", 0);
        isFault("fine !!!!!!!!!5", 13);
        isFault("fine ! ! ! ! ! ! ! ! ! 5", 21);
        gives("!!!!!!!!5+!!!!!!!!5", 2);
        gives("!0+!0+!0+!0+!0+!0+!0+!0+!0+!0", 10);
        gives("!!!!(!!!!0+!!!!0)", 0);
        isFault("fine !!!!(!!!!0+!!!!!0)", 20);
        isFault("fine !!!!!!!!(!0)", 14);
        gives("!!!!!!!!(0)+!!!!!!!!0", 0);
        gives("!!!!(0)+!!!!!!!!(0+1)", 1);
        isFault("fine !(!(!(!(!!!!0)))+!(!(!(!!!!!0))))", 32);
        isFault("fine !(!(!(!(!!!!0)))+!(!(!(!(!!!!0))))", 33);
        isFault("fine !(!(!(!(!!!!0))))+!(!(!(!(!!!!!0))))", 35);
    }

    private static void eachByItself() {
        due.term(4, "each by itself)");
        gives("!(!(!(!(!(!(!(!(0))))))))", 0);
        gives("(!(!(!(!(!(!(!(!0))))))))", 0);
        isFault("fine !(!(!(!(!(!(!(!(!0", 21);
        isFault("fine !(!(!(!(!(!(!(!((0", 21);
        isFault("fine !!!!!!!!((((((((!", 21);
        isFault("fine !!!!!!!!(((((((((", 21);
        isFault("fine ((((((((!!!!!!!!(", 21);
        gives("!!!!!!!!((((((((7))))))))", 1);
        gives("((((((((!!!!!!!!7))))))))", 1);
    }

    private static void endTooSoon() {
        due.term(4, "the end (the place behind the last byte), if it comes too soon");
        isFault("", 0);
        isFault(" ", 1);
        isFault(" ".repeat(96), 96);
        isFault("fine", 4);
        isFault("fine ", 5);
        isFault("fine   ", 7);
        isFault("fine (", 6);
        isFault("fine (1", 7);
        isFault("fine (1  ", 9);
        isFault("fine ((1)", 9);
        isFault("fine !", 6);
        isFault("fine ! ", 7);
        for (int i = 0; i < SIGNS.length(); i++) {
            isFault("fine 1" + SIGNS.charAt(i), 7);
            isFault("fine 1" + SIGNS.charAt(i) + "  ", 9);
        }
        isFault(" ".repeat(92) + "fine", 96);
    }

    private static void intsWrap() {
        due.term(4, "Ints wrap");
        gives("4096*4096*127+4096*4096-1", Integer.MAX_VALUE);
        gives("4096*4096*127+4096*4096-1+1", Integer.MIN_VALUE);
        gives("4096*4096*128", Integer.MIN_VALUE);
        gives("4096*4096*128-1", Integer.MAX_VALUE);
        gives("0-4096*4096*128", Integer.MIN_VALUE);
        gives("4096*4096*256", 0);
        gives("9999*9999*9999*9999", 9999 * 9999 * 9999 * 9999);
        gives("4096*4096*128/(0-1)", Integer.MIN_VALUE);
        gives("4096*4096*128<0", 1);
        gives("4096*4096*128<1", 1);
        gives("4096*4096*128-1>0", 1);
        gives("4096*4096*128<4096*4096*128-1", 1);
        gives("4096*4096*128-1<4096*4096*128", 0);
        gives("4096*4096*128-1>4096*4096*128", 1);
        gives("4096*4096*128>4096*4096*128-1", 0);
    }

    private static void byZero() {
        due.term(4, "/ is 0 by 0");
        gives("5/0", 0);
        gives("0/0", 0);
        gives("5/(l-3)", 0);
        gives("5/(l-3)+9", 9);
        gives("7-5/0", 7);
        gives("(0-5)/0", 0);
        gives("4096*4096*128/0", 0);
        gives("0/5", 0);
    }

    private static void oneOrZero() {
        due.term(4, "tests, & | ! give 1 or 0 (what is not 0 is true");
        String[] signs = {"<", "=", ">"};
        int[][] want = {{0, 1, 0, 0}, {1, 0, 0, 1}, {0, 0, 1, 0}};
        int[][] pairs = {{5, 5}, {4, 5}, {5, 4}, {0, 0}};
        for (int s = 0; s < 3; s++) {
            for (int i = 0; i < pairs.length; i++) {
                gives(pairs[i][0] + signs[s] + pairs[i][1], want[s][i]);
            }
        }
        int[] values = {0, 1, 2, 6};
        for (int a : values) {
            for (int b : values) {
                gives(a + "&" + b, a != 0 && b != 0 ? 1 : 0);
                gives(a + "|" + b, a != 0 || b != 0 ? 1 : 0);
            }
            gives("!" + a, a == 0 ? 1 : 0);
            gives("!!" + a, a == 0 ? 0 : 1);
            gives("!(0-" + a + ")", a == 0 ? 1 : 0);
        }
        gives("(0-1)&(0-1)", 1);
        gives("(0-1)|0", 1);
        gives("1&2&4", 1);
        gives("1&2&0", 0);
        gives("0|0|8", 1);
        gives("0-1<0", 1);
    }

    private static void bothSides() {
        due.term(4, "both sides are worked out)");
        gives("0&(1/0)", 0);
        gives("1|(1/0)", 1);
        gives("(1|2)+(0&3)*9", 1);
    }

    private static void lastCounts() {
        due.term(4, "Of a KEY that TEXT counts that was told last.");
        WornWeights x = Due.with(0, 500);
        due.is("none", x.why(0), Due.NONE);
        Due.text(x, "wear 10");
        Due.text(x, "law 400");
        Due.text(x, "wear 20");
        due.is("why wear", x.why(0), 2);
        due.is("why law", x.why(1), 1);
        due.is("wear", x.told(0, 4), 20);
        Due.text(x, "wear 30+");
        due.is("not a fault", x.told(0, 4), 20);
        Due.text(x, "fine 30");
        due.is("of each key by itself", x.told(0, 4), 20);
        due.is("why fine", x.why(2), 3);
        Due.text(x, "wear 10");
        due.is("the same once more", x.why(0), 4);
        due.is("the last", x.told(0, 4), 10);
        while (x.count(6) < 14) {
            Due.text(x, "law 5");
        }
        due.is("FULL", Due.text(x, "wear 50"), Due.FULL);
        due.is("not one for which there is no room", x.told(0, 4), 10);
    }
}
