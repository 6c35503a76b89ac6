/** The sentences on TEXTS and THE TAPE (Terms 2, promises 11 to 13), each with its boundary cases. */
public final class BoundsOfTextsTest {
    private static final long BEYOND = -1000000001;
    private static final long FULL = -1000000004;

    /** The greatest int and the least, as short TEXTS that wrap, and without that, as long ones. */
    private static final String MOST = "(8192*8192*32-1)";
    private static final String LEAST = "8192*8192*32";
    private static final String LONG_MOST = "9999*9999*21+9999*4790+8416";
    private static final String LONG_LEAST = "0-9999*9999*21-9999*4790-8417";

    public static void main(String[] args) {
        tapeOf60Bytes();
        tapeOfOneByte();
        orAndAndAreRepeated();
        comparisonsAreNotRepeated();
        sumsAndProductsAreRepeated();
        signsNeedBothSides();
        whatBindsMore();
        numbersOfOneToFourDigits();
        namesOfMoving();
        namesOfHours();
        notAndParentheses();
        noBlanks();
        bytesThatAreNoSigns();
        fiveNots();
        fiveParentheses();
        fiveTogether();
        fiveAgainWhenClosed();
        sumsWrap();
        productsWrap();
        byZeroAndByLessThanZero();
        theLeastByMinusOne();
        comparisonsOfTheEnds();
        truthIsOneOrZero();
        allIsWorkedOut();
        faultOfAnEmptyTape();
        faultAtTheFirstByte();
        faultAtTheLastByte();
        faultThatEndsTooEarly();
        firstOfSeveralFaults();
        movingOfNames();
        movingOfNamesOfTheFarthest();
        movingIsHeld();
        movingWithoutText();
        hoursOfNames();
        hoursAreHeld();
        hoursWithoutText();
        promise11Bounds();
        promise11LowestFirst();
        promise11Full();
        promise12();
        promise12InPlaceOfOneAhead();
        promise12TheTapeStays();
        promise12Fault();
        promise13();
        promise13TheOther();
        Due.end();
    }

    private static int told(int use, String text) {
        return Texts.told(new NeedleLine(), use, text);
    }

    private static void sound(int use, String... texts) {
        for (String text : texts) {
            Due.due("text(" + use + ") of " + text, told(use, text), 1);
        }
    }

    private static void fault(int use, String text, int place) {
        Due.due("text(" + use + ") of " + text, told(use, text), -10 - place);
    }

    private static void value(String text, int due) {
        NeedleLine x = new NeedleLine();
        Due.due("text(1) of " + text, Texts.told(x, 1, text), 1);
        Due.due("HOURS by " + text, x.mileIs(0, 5), due);
    }

    private static void tapeOf60Bytes() {
        Due.sentence("TEXTS are read from THE TAPE (bytes, at most 60)");
        NeedleLine x = new NeedleLine();
        Due.due("60 bytes come", Texts.feed(x, "7" + "+7".repeat(29) + "0"), 60);
        Due.due("one more", x.feed('1', 1), FULL);
        Due.due("text(1) of 60 bytes", x.text(1), 1);
        Due.due("all of them count", x.mileIs(0, 5), 29 * 7 + 70);
        Due.due("one comes again", x.feed('1', 1), 1);
        value("!7" + "+7".repeat(29), 29 * 7);
        value("!!!!!7" + "+7".repeat(27), 27 * 7);
    }

    private static void tapeOfOneByte() {
        Due.sentence("TEXTS are read from THE TAPE (bytes, at most 60)");
        sound(0, "i", "n", "s", "a", "t", "0", "9");
        sound(1, "i", "l", "w", "c", "0", "9");
    }

    private static void orAndAndAreRepeated() {
        Due.sentence("T: A { | A }. A: B { & B }.");
        sound(1, "1", "0|1", "0|0|1", "0" + "|1".repeat(29), "1&1", "1&1&0", "1" + "&1".repeat(29), "0|1&1|0&1");
        value("0|0|7", 1);
        value("1&1&0", 0);
        value("0" + "|0".repeat(28) + "|1", 1);
    }

    private static void comparisonsAreNotRepeated() {
        Due.sentence("B: S, or S < S, S = S, S > S.");
        sound(1, "1", "1<2", "1=2", "1>2", "1<2&1<2", "1<2|1<2", "(1<2)<2", "1<(1<2)");
        for (String first : new String[] {"<", "=", ">"}) {
            for (String second : new String[] {"<", "=", ">"}) {
                fault(1, "1" + first + "1" + second + "1", 3);
            }
        }
        fault(1, "(1<1<1)", 4);
        fault(1, "1&1<1=1", 5);
    }

    private static void sumsAndProductsAreRepeated() {
        Due.sentence("S: P { + P, - P }. P: Q { * Q, / Q, % Q }.");
        value("9", 9);
        value("9+1", 10);
        value("9-1-1+2", 9);
        value("0" + "+3".repeat(29), 87);
        value("99" + "-3".repeat(29), 12);
        value("2*3*4", 24);
        value("900/3/3", 100);
        value("9%5%3", 1);
        value("5*7%4*6/9", 2);
    }

    private static void signsNeedBothSides() {
        Due.sentence("T: A { | A }. A: B { & B }. B: S, or S < S, S = S, S > S. S: P { + P, - P }. P: Q { * Q, / Q, % Q }.");
        for (String sign : new String[] {"|", "&", "<", "=", ">", "+", "-", "*", "/", "%"}) {
            fault(1, sign, 0);
            fault(1, sign + "1", 0);
            fault(1, "1" + sign, 2);
            fault(1, "1" + sign + sign + "1", 2);
            fault(1, "(" + sign + "1)", 1);
            fault(1, "(1" + sign + ")", 3);
            sound(1, "1" + sign + "1");
        }
    }

    private static void whatBindsMore() {
        Due.sentence("T: A { | A }. A: B { & B }. B: S, or S < S, S = S, S > S. S: P { + P, - P }. P: Q { * Q, / Q, % Q }.");
        value("1|0&0", 1);
        value("(1|0)&0", 0);
        value("2&0<1", 1);
        value("(2&0)<0", 0);
        value("1<1+1", 1);
        value("(1<1)+3", 3);
        value("2+3*4", 14);
        value("(2+3)*4", 20);
        value("!0+1", 2);
        value("!(0+1)", 0);
        value("20-3+4", 21);
        value("12/2*3", 18);
    }

    private static void numbersOfOneToFourDigits() {
        Due.sentence("a NUMBER of 1 to 4 digits");
        sound(1, "0", "00", "000", "0000", "9999", "1+1234");
        fault(1, "00000", 4);
        fault(1, "12345", 4);
        fault(1, "1+12345", 6);
        fault(1, "12345678", 4);
        value("0", 0);
        value("007", 7);
        value("0998", 998);
        value("9999=9999", 1);
        value("9999-9000", 999);
    }

    private static void namesOfMoving() {
        Due.sentence("0 MOVING of POST i: NAMES i, n MILES, s MISS in SIDE, a MISS in ALONG, t trees that witness it");
        for (char byteOf = 'a'; byteOf <= 'z'; byteOf++) {
            boolean is = "insat".indexOf(byteOf) >= 0;
            Due.due("text(0) of " + byteOf, told(0, "" + byteOf), is ? 1 : -10);
            Due.due("text(0) of its capital", told(0, "" + Character.toUpperCase(byteOf)), -10);
        }
        fault(0, "in", 1);
        fault(0, "i1", 1);
        fault(0, "1i", 1);
    }

    private static void namesOfHours() {
        Due.sentence("1 HOURS of a MILE: i (from 0), l SLOPE, w SWAMP, c 1 if it has a CHECK, else 0");
        for (char byteOf = 'a'; byteOf <= 'z'; byteOf++) {
            boolean is = "ilwc".indexOf(byteOf) >= 0;
            Due.due("text(1) of " + byteOf, told(1, "" + byteOf), is ? 1 : -10);
            Due.due("text(1) of its capital", told(1, "" + Character.toUpperCase(byteOf)), -10);
        }
    }

    private static void notAndParentheses() {
        Due.sentence("Q: a NUMBER of 1 to 4 digits, a NAME, ! Q, ( T ).");
        sound(1, "!i", "!1", "!!i", "!(i)", "(i)", "((i))", "(!i)", "(i|1&2<3+4*5)", "i*!i", "i-!i");
        fault(1, "!", 1);
        fault(1, "i!", 1);
        fault(1, "!+i", 1);
        fault(1, "()", 1);
        fault(1, "(", 1);
        fault(1, ")", 0);
        fault(1, "(i", 2);
        fault(1, "i)", 1);
        fault(1, "(i))", 3);
        fault(1, "(i)i", 3);
        fault(1, "i(i)", 1);
        fault(1, "(i)(i)", 3);
        fault(1, "!)", 1);
    }

    private static void noBlanks() {
        Due.sentence("No blanks.");
        fault(1, " ", 0);
        fault(1, " i", 0);
        fault(1, "i ", 1);
        fault(1, "i +1", 1);
        fault(1, "i+ 1", 2);
        fault(1, "1 2", 1);
        fault(1, "i\t", 1);
        fault(1, "i\n", 1);
    }

    private static void bytesThatAreNoSigns() {
        Due.sentence("FAULT: the place of the first byte with which no TEXT goes on");
        for (int one = 0; one < 256; one++) {
            char sign = (char) one;
            boolean begins = "0123456789ilwc!(".indexOf(sign) >= 0;
            boolean isWhole = begins && sign != '!' && sign != '(';
            Due.due("text(1) of byte " + one, told(1, "" + sign), isWhole ? 1 : begins ? -11 : -10);
            boolean goesOn = "|&<=>+-*/%".indexOf(sign) >= 0;
            Due.due("text(1) of i and byte " + one, told(1, "i" + sign), goesOn ? -12 : -11);
        }
    }

    private static void fiveNots() {
        Due.sentence("At most 5 of ! and ( are open at once.");
        sound(1, "!!!!!1");
        fault(1, "!!!!!!1", 5);
        fault(1, "!!!!!", 5);
        fault(1, "!!!!!!", 5);
        value("!!!!!0+3", 4);
    }

    private static void fiveParentheses() {
        Due.sentence("At most 5 of ! and ( are open at once.");
        sound(1, "(((((1)))))");
        fault(1, "((((((1))))))", 5);
        fault(1, "(((((", 5);
        fault(1, "((((((", 5);
        fault(1, "(((((1))))))", 11);
        value("(((((8)))))", 8);
    }

    private static void fiveTogether() {
        Due.sentence("At most 5 of ! and ( are open at once.");
        sound(1, "!(!(!1))", "(!(!(1)))", "((((!1))))", "!!!!(1)");
        fault(1, "!(!(!(1)))", 5);
        fault(1, "(!(!(!1)))", 5);
        fault(1, "(((((!1)))))", 5);
        fault(1, "!!!!!(1)", 5);
    }

    private static void fiveAgainWhenClosed() {
        Due.sentence("At most 5 of ! and ( are open at once.");
        sound(1, "!!!!!1+!!!!!1", "(((((1)))))*(((((1)))))", "!!!!!1*!!!!!1", "(!!!!1+!!!!1)", "!(((!1)))|(((((1)))))");
        fault(1, "(!!!!1+!!!!!1)", 11);
        fault(1, "(((((1))))+((((((1))))))", 15);
        fault(1, "!!!!!1+!!!!!!1", 12);
    }

    private static void sumsWrap() {
        Due.sentence("Ints that wrap;");
        value(LONG_MOST + ">0", 1);
        value(LONG_LEAST + "<0", 1);
        value(LONG_MOST + "+1<0", 1);
        value(LONG_LEAST + "-1>0", 1);
        value(LONG_MOST + "=" + MOST, 1);
        value(LONG_LEAST + "=" + LEAST, 1);
        value(MOST + "+1<0", 1);
        value(MOST + "+1=" + LEAST, 1);
        value(LEAST + "-1>0", 1);
        value("0-" + LEAST + "<0", 1);
        value(MOST + "+" + MOST + "+9", 7);
        value(MOST + "-0<0", 0);
        value(LEAST + "+0>0", 0);
    }

    private static void productsWrap() {
        Due.sentence("Ints that wrap;");
        value("9999*9999*21<0", 0);
        value("9999*9999*22<0", 1);
        value("8192*8192*31>0", 1);
        value(LEAST + "*2", 0);
        value(MOST + "*2+9", 7);
        value("9999*9999*9999*9999%1000", Math.max(0, 9999 * 9999 * 9999 * 9999 % 1000));
        value("(0-9999)*9999*22>0", 1);
    }

    private static void byZeroAndByLessThanZero() {
        Due.sentence("/ cut, % the rest that it leaves, both by 0 are 0;");
        value("7/0+5", 5);
        value("7%0+5", 5);
        value("0/0+5", 5);
        value("0%0+5", 5);
        value(LEAST + "/0", 0);
        value(LEAST + "%0", 0);
        value("5/(i-i)+1", 1);
        value("7/1", 7);
        value("7%1", 0);
        value("7%(0-4)", 3);
        value("4-(0-7)%4", 7);
        value("(0-7)/(0-4)", 1);
    }

    private static void theLeastByMinusOne() {
        Due.sentence("Ints that wrap; / cut, % the rest that it leaves");
        value(LEAST + "/(0-1)<0", 1);
        value(LEAST + "/(0-1)=" + LEAST, 1);
        value(LEAST + "%(0-1)+4", 4);
        value(MOST + "/(0-1)<0", 1);
    }

    private static void comparisonsOfTheEnds() {
        Due.sentence("| & < = > ! are 1 or 0");
        value(LEAST + "<" + MOST, 1);
        value(MOST + "<" + LEAST, 0);
        value(MOST + ">" + LEAST, 1);
        value(LEAST + ">" + MOST, 0);
        value("4<5", 1);
        value("5<5", 0);
        value("5>5", 0);
        value("5>4", 1);
        value("5=5", 1);
        value("5=4", 0);
        value("4=5", 0);
    }

    private static void truthIsOneOrZero() {
        Due.sentence("| & < = > ! are 1 or 0, what is not 0 being true; all is worked out.");
        value("7|0", 1);
        value("0|7", 1);
        value("7|8", 1);
        value("0|0", 0);
        value("4&2", 1);
        value("4&0", 0);
        value("0&4", 0);
        value("0&0", 0);
        value("!0", 1);
        value("!1", 0);
        value("!9", 0);
        value("(0-1)|0", 1);
        value("(0-1)&(0-2)", 1);
        value("!(0-1)", 0);
        value(LEAST + "&1", 1);
    }

    /** No sign of a TEXT does anything but give a number, so no more can be seen of this. */
    private static void allIsWorkedOut() {
        Due.sentence("what is not 0 being true; all is worked out.");
        value("1|7/0", 1);
        value("0&7%0", 0);
        value("0&1|7/0+3", 1);
    }

    private static void faultOfAnEmptyTape() {
        Due.sentence("how many there are, if it ends too early.");
        for (int use = 0; use < 2; use++) {
            Due.due("text(" + use + ") of an empty TAPE", new NeedleLine().text(use), -10);
        }
    }

    private static void faultAtTheFirstByte() {
        Due.sentence("FAULT: the place of the first byte with which no TEXT goes on");
        fault(0, "x", 0);
        fault(0, "l", 0);
        fault(1, "n", 0);
        fault(0, "+1", 0);
        fault(0, ")i(", 0);
    }

    private static void faultAtTheLastByte() {
        Due.sentence("FAULT: the place of the first byte with which no TEXT goes on");
        fault(1, "1" + "+1".repeat(29) + "x", 59);
        fault(1, "1" + "+1".repeat(29) + ")", 59);
        fault(1, "11" + "+1".repeat(26) + "+12345", 59);
    }

    private static void faultThatEndsTooEarly() {
        Due.sentence("how many there are, if it ends too early.");
        fault(1, "1+", 2);
        fault(1, "(1", 2);
        fault(1, "1" + "+1".repeat(29) + "+", 60);
        fault(1, "1" + "+1".repeat(28) + "+(1", 60);
        fault(1, "1" + "+1".repeat(29), -11);
    }

    private static void firstOfSeveralFaults() {
        Due.sentence("FAULT: the place of the first byte with which no TEXT goes on");
        fault(1, "1+x+x", 2);
        fault(1, "(1+)*(x", 3);
        fault(1, "1<2<3<4", 3);
        fault(1, "12345x", 4);
    }

    private static int moving(NeedleLine x, String text, int post) {
        Due.due("text(0) of " + text, Texts.told(x, 0, text), 1);
        return x.post(post, 4);
    }

    private static void movingOfNames() {
        Due.sentence("NAMES i, n MILES, s MISS in SIDE, a MISS in ALONG, t trees that witness it");
        NeedleLine x = new NeedleLine();
        x.miles(7);
        x.mile(0, 0, 13);
        x.stone(-4, 7 * 1760 - 29);
        x.tree(7, 0, 100100);
        x.tree(7, 1, 100100);
        x.tree(1, 1, 100100);
        int[] posts = {0, 1, 7};
        int[] trees = {0, 1, 2};
        for (int i = 0; i < posts.length; i++) {
            Due.due("i of POST " + posts[i], moving(x, "i", posts[i]), posts[i]);
            Due.due("n of POST " + posts[i], moving(x, "n", posts[i]), 7);
            Due.due("s of POST " + posts[i], moving(x, "s", posts[i]), 17);
            Due.due("a of POST " + posts[i], moving(x, "a", posts[i]), 29);
            Due.due("t of POST " + posts[i], moving(x, "t", posts[i]), trees[i]);
        }
        x.stone(20, 7 * 1760 + 3);
        Due.due("s below 0", moving(x, "s+10", 0), 3);
        Due.due("a below 0", moving(x, "a+10", 0), 7);
    }

    private static void movingOfNamesOfTheFarthest() {
        Due.sentence("NAMES i, n MILES, s MISS in SIDE, a MISS in ALONG, t trees that witness it");
        NeedleLine x = new NeedleLine();
        x.miles(24);
        for (int tree = 0; tree < 16; tree++) {
            x.tree(24, 0, 100100);
        }
        x.stone(-9999, 99999);
        Due.due("i of the last POST there can be", moving(x, "i", 24), 24);
        Due.due("n of the longest LINE", moving(x, "n", 24), 24);
        Due.due("t of all the TREES", moving(x, "t", 24), 16);
        Due.due("s", moving(x, "s=9999", 24), 1);
        Due.due("a", moving(x, "a=0-9999*5-7764", 24), 1);
        x.miles(1);
        Due.due("i of POST 0", moving(x, "i", 0), 0);
        Due.due("n of the shortest LINE", moving(x, "n", 1), 1);
    }

    private static void movingIsHeld() {
        Due.sentence("held within 0 .. 100; without a TEXT 100 * i / n.");
        NeedleLine x = new NeedleLine();
        String[] texts = {"0-1", "0", "1", "99", "100", "101", "9999", LEAST, MOST};
        int[] due = {0, 0, 1, 99, 100, 100, 100, 0, 100};
        for (int i = 0; i < texts.length; i++) {
            Due.due("MOVING by " + texts[i], moving(x, texts[i], 5), due[i]);
        }
    }

    private static void movingWithoutText() {
        Due.sentence("without a TEXT 100 * i / n.");
        for (int n : new int[] {1, 7, 24}) {
            NeedleLine x = new NeedleLine();
            x.miles(n);
            for (int post = 0; post <= n; post++) {
                Due.due("MOVING of POST " + post + " of " + n, x.post(post, 4), 100 * post / n);
            }
        }
    }

    private static void hoursOfNames() {
        Due.sentence("1 HOURS of a MILE: i (from 0), l SLOPE, w SWAMP, c 1 if it has a CHECK, else 0");
        NeedleLine x = new NeedleLine();
        x.miles(24);
        for (int mile = 0; mile < 24; mile += 23) {
            x.mile(mile, 1, mile == 0 ? 9 : 1);
            x.mile(mile, 2, mile == 0 ? 99 : 7);
            x.mile(mile, 3, mile == 0 ? 1 : 0);
        }
        String[] names = {"i", "l", "w", "c"};
        int[] first = {0, 9, 99, 1};
        int[] last = {23, 1, 7, 0};
        for (int i = 0; i < names.length; i++) {
            Texts.told(x, 1, names[i]);
            Due.due(names[i] + " of MILE 0", x.mileIs(0, 5), first[i]);
            Due.due(names[i] + " of MILE 23", x.mileIs(23, 5), last[i]);
        }
    }

    private static void hoursAreHeld() {
        Due.sentence("held within 0 .. 999; without 8 + l + w / 9 + 3 * c.");
        value("0-1", 0);
        value("0", 0);
        value("1", 1);
        value("998", 998);
        value("999", 999);
        value("1000", 999);
        value("9999", 999);
        value(LEAST, 0);
        value(MOST, 999);
    }

    private static void hoursWithoutText() {
        Due.sentence("without 8 + l + w / 9 + 3 * c.");
        NeedleLine x = new NeedleLine();
        Due.due("of none of all", x.mileIs(0, 5), 8);
        x.mile(0, 1, 9);
        Due.due("with the most of SLOPE", x.mileIs(0, 5), 17);
        x.mile(0, 2, 8);
        Due.due("with 8 of SWAMP", x.mileIs(0, 5), 17);
        x.mile(0, 2, 9);
        Due.due("with 9 of SWAMP", x.mileIs(0, 5), 18);
        x.mile(0, 2, 99);
        Due.due("with the most of SWAMP", x.mileIs(0, 5), 28);
        x.mile(0, 3, 1);
        Due.due("with a CHECK", x.mileIs(0, 5), 31);
        Due.due("IRON doesn't count", x.mile(0, 0, 99) + x.mileIs(0, 5), 31);
    }

    private static void promise11Bounds() {
        Due.sentence("The n lowest bytes (1 .. 8) of a word, the lowest first, come to THE TAPE: how many there are. BEYOND. FULL.");
        Twins.bounds("feed(49, *)", 1, 8, (x, v) -> x.feed(49, v));
        NeedleLine x = new NeedleLine();
        Due.due("feed of one", x.feed(0, 1), 1);
        Due.due("feed of eight", x.feed(0, 8), 9);
        Due.due("count(4)", x.count(4), 9);
    }

    private static void promise11LowestFirst() {
        Due.sentence("The n lowest bytes (1 .. 8) of a word, the lowest first");
        NeedleLine x = new NeedleLine();
        x.feed(0x3132333435363738L, 1);
        x.text(1);
        Due.due("the lowest of eight", x.mileIs(0, 5), 8);
        x.feed(0x3132333435363738L, 3);
        x.text(1);
        Due.due("three of eight", x.mileIs(0, 5), 876);
        x.feed(0x392A392B39302D38L, 8);
        x.text(1);
        Due.due("8-09+9*9: all eight", x.mileIs(0, 5), 80);
        x.feed(-1L, 8);
        Due.due("eight bytes 255: the first is the FAULT", x.text(1), -10);
        x.feed(Long.MIN_VALUE | '3', 8);
        Due.due("3 and a byte 0", x.text(1), -11);
    }

    private static void promise11Full() {
        Due.sentence("come to THE TAPE: how many there are. BEYOND. FULL.");
        for (int n = 1; n <= 8; n++) {
            int its = n;
            NeedleLine x = Rich.withTape(60 - n);
            Due.due(n + " bytes behind " + (60 - n), x.feed(0, n), 60);
            Due.due("one more", x.feed(0, 1), FULL);
            Twins.refused(() -> Rich.withTape(61 - its), n + " bytes behind " + (61 - n), FULL, y -> y.feed(0x2B31, its));
        }
    }

    private static void promise12() {
        Due.sentence("THE TAPE, which is empty then, is the TEXT of a USE (0, 1), in place of one ahead: 1.");
        Twins.bounds("text(*)", 0, 1, (x, v) -> x.text(v));
        for (int use = 0; use < 2; use++) {
            NeedleLine x = new NeedleLine();
            Texts.feed(x, "77");
            Due.due("text(" + use + ")", x.text(use), 1);
            Due.due("count(4)", x.count(4), 0);
            Due.due("MOVING", x.post(0, 4), use == 0 ? 77 : 0);
            Due.due("HOURS", x.mileIs(0, 5), use == 1 ? 77 : 8);
        }
    }

    private static void promise12InPlaceOfOneAhead() {
        Due.sentence("in place of one ahead: 1.");
        NeedleLine x = new NeedleLine();
        Texts.told(x, 1, "1" + "+1".repeat(29));
        Due.due("a long one", x.mileIs(0, 5), 30);
        Due.due("a short one in its place", Texts.told(x, 1, "7"), 1);
        Due.due("HOURS by it", x.mileIs(0, 5), 7);
        Due.due("a long one in place of that", Texts.told(x, 1, "2" + "+2".repeat(29)), 1);
        Due.due("HOURS by that", x.mileIs(0, 5), 60);
        Due.due("one that ends with a sign", Texts.told(x, 1, "!!!!!7"), 1);
        Due.due("one of a NUMBER alone in its place", Texts.told(x, 1, "7"), 1);
        Due.due("HOURS by it, and by no sign", x.mileIs(0, 5), 7);
    }

    private static void promise12TheTapeStays() {
        Due.sentence("BEYOND (THE TAPE stays).");
        for (int use : new int[] {-1, 2, Integer.MIN_VALUE, Integer.MAX_VALUE}) {
            Twins.refused("text(" + use + ")", BEYOND, x -> x.text(use));
            Twins.refused(() -> Rich.withTape(60), "text(" + use + ") of a full TAPE", BEYOND, x -> x.text(use));
        }
        NeedleLine x = new NeedleLine();
        Texts.feed(x, "31");
        x.text(2);
        Due.due("count(4)", x.count(4), 2);
        Due.due("text(1)", x.text(1), 1);
        Due.due("HOURS", x.mileIs(0, 5), 31);
    }

    private static void promise12Fault() {
        Due.sentence("-10 less the FAULT (no ERROR; the one ahead stays; THE TAPE is empty, too).");
        NeedleLine x = new NeedleLine();
        for (int use = 0; use < 2; use++) {
            Texts.told(x, use, "41");
            Due.due("text(" + use + ") of a FAULT", Texts.told(x, use, "1" + "+1".repeat(29) + "+"), -70);
            Due.due("THE TAPE is empty", x.count(4), 0);
            Due.due("text(" + use + ") of an empty TAPE", x.text(use), -10);
            Due.due("the one ahead stays", use == 0 ? x.post(12, 4) : x.mileIs(0, 5), 41);
        }
        for (int k = 1; k <= 6; k++) {
            Due.due("told(" + k + ")", x.told(k), 0);
        }
        NeedleLine without = new NeedleLine();
        Texts.told(without, 1, "1+");
        Due.due("none ahead, none then", without.untell(1), 0);
        Due.due("HOURS without", without.mileIs(0, 5), 8);
    }

    private static void promise13() {
        Due.sentence("There is no TEXT of a USE any more: 1 if there was, else 0. BEYOND.");
        Twins.bounds("untell(*)", 0, 1, (x, v) -> x.untell(v));
        for (int use = 0; use < 2; use++) {
            NeedleLine x = new NeedleLine();
            Due.due("untell(" + use + ") of none", x.untell(use), 0);
            Texts.told(x, use, "0");
            Due.due("untell(" + use + ") of one", x.untell(use), 1);
            Due.due("untell(" + use + ") again", x.untell(use), 0);
            Due.due("MOVING without", x.post(12, 4), 100);
            Due.due("HOURS without", x.mileIs(0, 5), 8);
        }
    }

    private static void promise13TheOther() {
        Due.sentence("There is no TEXT of a USE any more");
        NeedleLine x = new NeedleLine();
        Texts.told(x, 0, "21");
        Texts.told(x, 1, "22");
        Texts.feed(x, "23");
        x.untell(0);
        Due.due("HOURS stay", x.mileIs(0, 5), 22);
        Due.due("THE TAPE stays", x.count(4), 2);
        Texts.told(x, 0, "");
        x.untell(1);
        Due.due("MOVING stays", x.post(1, 4), 23);
    }
}
