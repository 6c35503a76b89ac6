/** Promises 11 to 13, and what TEXTS are. */
public final class TextsTest {
    private static final int BEYOND = -1000000001;
    private static final int FULL = -1000000004;

    public static void main(String[] args) {
        promise11Feed();
        promise12Text();
        promise12TextOfBoundsOfTheTape();
        promise12Faults();
        promise12FaultsOfOpenSigns();
        promise12Values();
        promise12ValuesOfNames();
        promise13Untell();
        Due.end();
    }

    private static void promise11Feed() {
        NeedleLine x = new NeedleLine();
        Due.due("feed(1, 0)", x.feed(1, 0), BEYOND);
        Due.due("feed(1, 9)", x.feed(1, 9), BEYOND);
        Due.due("feed(1, -1)", x.feed(1, -1), BEYOND);
        Due.due("count(4) after errors", x.count(4), 0);
        Due.due("feed of one of two bytes", x.feed(0x2B39L, 1), 1);
        Due.due("text: 9 alone", x.text(1), 1);
        Due.due("hours()", x.hours(), 12 * 9);
        Due.due("feed, the lowest first", x.feed(0x332D37L, 3), 3);
        Due.due("text: 7-3", x.text(1), 1);
        Due.due("hours() of 7-3", x.hours(), 12 * 4);
        Due.due("feed of eight, the highest set", x.feed(0xB130303030303031L, 8), 8);
        Due.due("text: a byte above 127", x.text(1), -10 - 4);
        for (int i = 1; i <= 7; i++) {
            Due.due("feed of eight, time " + i, x.feed(0, 8), 8 * i);
        }
        Due.due("feed of five at 56", x.feed(0, 5), FULL);
        Due.due("feed of nine at 56: BEYOND is asked first", x.feed(0, 9), BEYOND);
        Due.due("count(4) of 56", x.count(4), 56);
        Due.due("feed of four at 56", x.feed(0, 4), 60);
        Due.due("feed of one at 60", x.feed(0, 1), FULL);
    }

    private static void promise12Text() {
        NeedleLine x = new NeedleLine();
        Texts.feed(x, "42");
        Due.due("text(2)", x.text(2), BEYOND);
        Due.due("text(-1)", x.text(-1), BEYOND);
        Due.due("THE TAPE stays", x.count(4), 2);
        Due.due("text(0)", x.text(0), 1);
        Due.due("THE TAPE is empty", x.count(4), 0);
        Due.due("post(3, 4)", x.post(3, 4), 42);
        Due.due("text(0) of an empty TAPE", x.text(0), -10);
        Due.due("the one ahead stays", x.post(3, 4), 42);
        Due.due("text of a FAULT", Texts.told(x, 0, "7+"), -12);
        Due.due("THE TAPE is empty after a FAULT", x.count(4), 0);
        Due.due("the one ahead stays after a FAULT", x.post(3, 4), 42);
        Due.due("text in place of one ahead", Texts.told(x, 0, "43"), 1);
        Due.due("post(3, 4) anew", x.post(3, 4), 43);
        Due.due("the other USE has none", x.hours(), 96);
        Due.due("a FAULT is no ERROR", x.told(1), 2);
    }

    private static void promise12TextOfBoundsOfTheTape() {
        NeedleLine x = new NeedleLine();
        StringBuilder sum = new StringBuilder("10");
        while (sum.length() < 60) {
            sum.append("+1");
        }
        Due.due("a TEXT of 60 bytes", Texts.told(x, 1, sum.toString()), 1);
        Due.due("its value", x.mileIs(0, 5), 39);
        sum.setLength(0);
        while (sum.length() < 60) {
            sum.append("2&");
        }
        Due.due("a TEXT that lacks its 61st byte", Texts.told(x, 1, sum.toString()), -70);
    }

    private static void promise12Faults() {
        NeedleLine x = new NeedleLine();
        String[] texts = {
            "", "+", "i+", "i++", "ii", "1i", "i1", "12345", "1234", "0000", "00000", "x", "I", "l", "w", "c",
            "s", "i<i<i", "i<i=i", "i=i>i", "i<", "i|", "i&", "i&|i", "(i", "(i)", "()", "(i))", "i)", "((i)",
            "i i", " i", "i ", "!", "!i", "i!", "i!i", "!!i", "-i", "i-!i", "i*(n", "i%n", "i/n*2", "(i<n)<t",
            "i<n&n<t|a=s", "(i<i<i)", "(12345)", "!(i", "!)", "1+2-3*4/5%6", "i<n+1<2", "9999a", "a9999"
        };
        int[] faults = {
            0, 0, 2, 2, 1, 1, 1, 4, -1, -1, 4, 0, 0, 0, 0, 0,
            -1, 3, 3, 3, 2, 2, 2, 2, 2, -1, 1, 3, 1, 4,
            1, 0, 1, 1, -1, 1, 1, -1, 0, -1, 4, -1, -1, -1,
            -1, 4, 5, 3, 1, -1, 5, 4, 1
        };
        for (int i = 0; i < texts.length; i++) {
            Due.due("text(0) of " + texts[i], Texts.told(x, 0, texts[i]), faults[i] < 0 ? 1 : -10 - faults[i]);
        }
        Due.due("text(1) of ilwc", Texts.told(x, 1, "i+l+w+c"), 1);
        for (String name : new String[] {"n", "s", "a", "t"}) {
            Due.due("text(1) of i+" + name, Texts.told(x, 1, "i+" + name), -12);
        }
    }

    private static void promise12FaultsOfOpenSigns() {
        NeedleLine x = new NeedleLine();
        Due.due("five !", Texts.told(x, 0, "!!!!!i"), 1);
        Due.due("six !", Texts.told(x, 0, "!!!!!!i"), -15);
        Due.due("five (", Texts.told(x, 0, "(((((i)))))"), 1);
        Due.due("six (", Texts.told(x, 0, "((((((i))))))"), -15);
        Due.due("! and ( together", Texts.told(x, 0, "!(!(!i))"), 1);
        Due.due("six ! and ( together", Texts.told(x, 0, "!(!(!(i)))"), -15);
        Due.due("six, the sixth !", Texts.told(x, 0, "((((("), -15);
        Due.due("( ended: five more", Texts.told(x, 0, "(i)+!!!!!i+(((((n)))))"), 1);
        Due.due("! ended: five more", Texts.told(x, 0, "!!!!!i*!!!!!i"), 1);
        Due.due("in a (, four more", Texts.told(x, 0, "(!!!!i+!!!!i)"), 1);
        Due.due("in a (, five more", Texts.told(x, 0, "(!!!!i+!!!!!i)"), -21);
    }

    private static void value(String text, int want) {
        NeedleLine x = new NeedleLine();
        Due.due("text of " + text, Texts.told(x, 1, text), 1);
        Due.due("hours of " + text, x.mileIs(2, 5), want);
    }

    private static void promise12Values() {
        value("1+2*3", 7);
        value("(1+2)*3", 9);
        value("20-5-3", 12);
        value("100/7/2", 7);
        value("100%7*2", 4);
        value("2*7%4", 2);
        value("7/0", 0);
        value("7%0+5", 5);
        value("(0-7)/2+10", 7);
        value("(0-7)%4+10", 7);
        value("5<5", 0);
        value("4<5", 1);
        value("5>5", 0);
        value("6>5", 1);
        value("5=5", 1);
        value("5=6", 0);
        value("3&5", 1);
        value("3&0", 0);
        value("0|5", 1);
        value("0|0", 0);
        value("!0", 1);
        value("!7", 0);
        value("!!7", 1);
        value("!0+4", 5);
        value("!0*3", 3);
        value("1|0&0", 1);
        value("0&0|1", 1);
        value("2+3=5", 1);
        value("1<2&2<3", 1);
        value("7", 7);
        value("0-1", 0);
        value("1000", 999);
        value("999", 999);
        value("9999*9999*9999", 0);
        value("9999*9999*9999*9999", 999);
        value("(0-1)&1", 1);
        value("0007", 7);
    }

    private static void promise12ValuesOfNames() {
        NeedleLine x = new NeedleLine();
        x.miles(9);
        x.mile(4, 1, 3);
        x.mile(4, 2, 25);
        x.mile(4, 3, 1);
        Texts.told(x, 1, "i*100+l*20+w+c*5");
        Due.due("hours of mile 4", x.mileIs(4, 5), 400 + 60 + 25 + 5);
        Due.due("hours of mile 0", x.mileIs(0, 5), 0);
        x.stone(-3, 9 * 1760 - 9 - 20);
        x.tree(5, 0, 1001);
        x.tree(5, 1, 1001);
        Texts.told(x, 0, "i");
        Due.due("i of POST 5", x.post(5, 4), 5);
        Texts.told(x, 0, "n");
        Due.due("n", x.post(5, 4), 9);
        Texts.told(x, 0, "s");
        Due.due("s", x.post(5, 4), 3);
        Texts.told(x, 0, "a");
        Due.due("a", x.post(5, 4), 20);
        Texts.told(x, 0, "t");
        Due.due("t of POST 5", x.post(5, 4), 2);
        Due.due("t of POST 4", x.post(4, 4), 0);
        Texts.told(x, 0, "i*30-20");
        Due.due("held at 0", x.post(0, 4), 0);
        Due.due("as it is", x.post(4, 4), 100);
        Due.due("held at 100", x.post(5, 4), 100);
        Due.due("as it is, lower", x.post(2, 4), 40);
    }

    private static void promise13Untell() {
        NeedleLine x = new NeedleLine();
        Texts.told(x, 0, "5");
        Texts.told(x, 1, "6");
        Due.due("untell(2)", x.untell(2), BEYOND);
        Due.due("untell(-1)", x.untell(-1), BEYOND);
        Due.due("untell(0)", x.untell(0), 1);
        Due.due("post(6, 4) without", x.post(6, 4), 50);
        Due.due("the other stays", x.mileIs(0, 5), 6);
        Due.due("untell(0) again", x.untell(0), 0);
        Due.due("untell(1)", x.untell(1), 1);
        Due.due("mileIs(0, 5) without", x.mileIs(0, 5), 8);
        Texts.told(x, 0, "0");
        Due.due("a TEXT that is 0", x.post(12, 4), 0);
        Due.due("untell(0) of it", x.untell(0), 1);
    }
}
