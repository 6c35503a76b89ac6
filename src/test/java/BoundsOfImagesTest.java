/** The sentences on IMAGES, numbers that wait and what is told (promises 40 to 45), each with its boundary cases. */
public final class BoundsOfImagesTest {
    private static final long BEYOND = -1000000001;
    private static final long NONE = -1000000002;
    private static final long FULL = -1000000004;

    private static final int MIN = Integer.MIN_VALUE;
    private static final int MAX = Integer.MAX_VALUE;

    public static void main(String[] args) {
        promise40HowOften();
        promise40InPlaceOfOneAhead();
        promise40SheetsAreNotKept();
        promise40TheTraceIsNotKept();
        promise40WhatIsToldIsNotKept();
        promise40HowOftenIsNotKept();
        promise41NoImage();
        promise41ItStays();
        promise41AllIsAsItWas();
        promise41EmptyAndFullRows();
        promise41Texts();
        promise41MilesBeyondTheLine();
        promise42();
        promise42Full();
        promise42AnyNumber();
        promise43AllAreSides();
        promise43PlaceOfTheFirst();
        promise43OneThatLacks();
        promise43OneTooMany();
        promise43NoneWaitThen();
        promise43TheLongestAndTheShortestLine();
        promise43GreatNumbers();
        promise44Bounds();
        promise44EmptyAndFull();
        promise44ChecksOfTheLine();
        promise44AnyNumber();
        promise45();
        promise45AnotherK();
        promise45TakenCallsDontCount();
        Due.end();
    }

    private static void promise40HowOften() {
        Due.sentence("is kept as an IMAGE, in place of one ahead: how often that was done.");
        NeedleLine x = new NeedleLine();
        for (int often = 1; often <= 5; often++) {
            Due.due("image()", x.image(), often);
        }
    }

    private static void promise40InPlaceOfOneAhead() {
        Due.sentence("is kept as an IMAGE, in place of one ahead");
        NeedleLine x = new NeedleLine();
        x.slip(4, 0, 1);
        x.tree(1, 0, 100100);
        x.image();
        x.miles(5);
        x.slip(4, 0, 1);
        x.tree(1, 0, 100100);
        x.image();
        x.miles(24);
        Due.due("restore()", x.restore(), 5);
        Due.due("SLIPS", x.count(1), 2);
        Due.due("TREES", x.count(2), 2);
    }

    private static void promise40SheetsAreNotKept() {
        Due.sentence("All (but SHEETS, THE TRACE, what told() tells, and how often this was done) is kept as an IMAGE");
        NeedleLine x = new NeedleLine();
        x.sheet(0, 8, 2);
        x.sheet(1, 8, 2);
        x.image();
        x.sheet(0, 0, 0);
        x.put(1, 1, 5);
        x.sheet(2, 8, 0);
        x.restore();
        Due.due("one that is missing since", x.put(0, 0, 0), NONE);
        Due.due("one that has another number since", x.judge(1, 4), 2);
        Due.due("one that is there since", x.judge(2, 0), 0);
    }

    private static void promise40TheTraceIsNotKept() {
        Due.sentence("All (but SHEETS, THE TRACE, what told() tells, and how often this was done) is kept as an IMAGE");
        NeedleLine x = new NeedleLine();
        x.slip(4, 0, 1);
        x.voice(0, 0, 0);
        x.image();
        x.slip(0, 0, 0);
        x.voice(1, 0, 0);
        x.restore();
        Due.due("the SLIP is gone", x.count(1), 1);
        Due.due("its BODIES stay", x.count(6), 1);
        Due.due("body(0)", x.body(0), 10);
    }

    private static void promise40WhatIsToldIsNotKept() {
        Due.sentence("All (but SHEETS, THE TRACE, what told() tells, and how often this was done) is kept as an IMAGE");
        NeedleLine x = new NeedleLine();
        x.miles(0);
        x.image();
        x.miles(0);
        x.body(0);
        x.restore();
        Due.due("told(1)", x.told(1), 2);
        Due.due("told(2)", x.told(2), 1);
    }

    private static void promise40HowOftenIsNotKept() {
        Due.sentence("All (but SHEETS, THE TRACE, what told() tells, and how often this was done) is kept as an IMAGE");
        NeedleLine x = new NeedleLine();
        x.image();
        x.restore();
        Due.due("image() behind restore()", x.image(), 2);
        x.restore();
        x.restore();
        Due.due("image() behind two more", x.image(), 3);
    }

    private static void promise41NoImage() {
        Due.sentence("All is as the IMAGE has it, which stays: MILES. NONE: there is none.");
        Twins.refused(NeedleLine::new, "restore()", NONE, x -> x.restore());
        NeedleLine x = new NeedleLine();
        x.miles(3);
        Due.due("restore()", x.restore(), NONE);
        Due.due("nothing changes", x.count(0), 3);
        x.image();
        Due.due("restore() behind image()", x.restore(), 3);
    }

    private static void promise41ItStays() {
        Due.sentence("All is as the IMAGE has it, which stays");
        NeedleLine x = new NeedleLine();
        x.miles(3);
        x.slip(4, 2, 1);
        x.image();
        for (int time = 0; time < 3; time++) {
            x.miles(24);
            x.mile(0, 0, 9);
            x.turn(0, 0);
            x.slip(4, 2, 1);
            Due.due("restore()", x.restore(), 3);
            Due.due("SIDE", x.post(3, 0), 6);
            Due.due("SLIPS", x.count(1), 1);
            Due.due("on", x.slipIs(0, 4), 1);
        }
    }

    private static void promise41AllIsAsItWas() {
        Due.sentence("All is as the IMAGE has it");
        NeedleLine x = Rich.open();
        x.image();
        change(x);
        Due.due("restore()", x.restore(), 5);
        NeedleLine twin = Rich.open();
        twin.image();
        twin.voice(1, 0, 0);
        Due.isTrue("all is as it was", java.util.Arrays.equals(Rich.reading(x), Rich.reading(twin)));
    }

    /** Something else of all that an IMAGE keeps. */
    private static void change(NeedleLine x) {
        x.miles(7);
        for (int mile = 0; mile < 24; mile++) {
            x.mile(mile, mile % 3, 5);
        }
        x.mile(3, 3, 1);
        x.waver(0, 24, 50);
        x.stone(1, 2);
        x.turn(0, 0);
        x.turn(1, 1);
        x.slip(6, 2323, 99);
        x.tree(7, 0, 100100);
        x.feed('9', 1);
        x.text(0);
        x.untell(1);
        x.feed('8', 1);
        x.seed(9);
        x.check();
        x.tell(77);
        x.voice(1, 0, 0);
    }

    private static void promise41EmptyAndFullRows() {
        Due.sentence("All is as the IMAGE has it");
        NeedleLine x = new NeedleLine();
        x.image();
        fill(x);
        x.restore();
        for (int what : new int[] {1, 2, 4, 5}) {
            Due.due("count(" + what + ") of none", x.count(what), 0);
        }
        fill(x);
        x.image();
        x.check();
        x.text(0);
        x.restore();
        int[] full = {12, 8, 16, 0, 60, 24};
        for (int what : new int[] {1, 2, 4, 5}) {
            Due.due("count(" + what + ") of full rows", x.count(what), full[what]);
        }
        Due.due("one more SLIP", x.slip(0, 0, 0), FULL);
        Due.due("one more TREE", x.tree(1, 0, 100100), FULL);
        Due.due("one more byte", x.feed('1', 1), FULL);
        Due.due("one more number", x.tell(0), FULL);
        x.miles(24);
        Due.due("the numbers that wait are those", x.check(), 24);
        Due.due("the bytes are those", x.text(1), 1);
        Due.due("HOURS by them", x.mileIs(0, 5), 30 * 7);
    }

    /** Eight SLIPS, sixteen TREES, 60 bytes, and 24 numbers that wait: 0 but for the last. */
    private static void fill(NeedleLine x) {
        for (int i = 0; i < 8; i++) {
            x.slip(0, 0, i);
        }
        for (int i = 0; i < 16; i++) {
            x.tree(i + 1, 0, 100100);
        }
        Texts.feed(x, "07" + "+7".repeat(29));
        for (int i = 0; i < 24; i++) {
            x.tell(i < 23 ? 0 : 1);
        }
    }

    private static void promise41Texts() {
        Due.sentence("All is as the IMAGE has it");
        NeedleLine x = new NeedleLine();
        x.image();
        Texts.told(x, 0, "41");
        Texts.told(x, 1, "42");
        x.restore();
        Due.due("none of use 0", x.untell(0), 0);
        Due.due("none of use 1", x.untell(1), 0);
        Texts.told(x, 0, "41");
        Texts.told(x, 1, "42");
        x.image();
        x.untell(0);
        Texts.told(x, 1, "7" + "+7".repeat(29));
        x.restore();
        Due.due("MOVING", x.post(0, 4), 41);
        Due.due("HOURS", x.mileIs(0, 5), 42);
    }

    private static void promise41MilesBeyondTheLine() {
        Due.sentence("All is as the IMAGE has it, which stays: MILES.");
        NeedleLine x = new NeedleLine();
        x.miles(1);
        x.mile(23, 0, 5);
        x.seed(8);
        x.waver(22, 1, 99);
        x.image();
        x.miles(24);
        x.mile(23, 0, 0);
        x.still();
        Due.due("restore()", x.restore(), 1);
        x.miles(24);
        Due.due("IRON of MILE 23", x.mileIs(23, 0), 5);
        Due.isTrue("WAVER of MILE 22", x.mileIs(22, 4) != 0);
    }

    private static void promise42() {
        Due.sentence("One more number waits: how many. FULL: 24 wait.");
        NeedleLine x = new NeedleLine();
        for (int wait = 1; wait <= 24; wait++) {
            Due.due("tell, number " + wait, x.tell(0), wait);
        }
        Due.due("tell of a 25th", x.tell(0), FULL);
        Due.due("count(5)", x.count(5), 24);
        Due.due("told(4)", x.told(4), 1);
    }

    private static void promise42Full() {
        Due.sentence("FULL: 24 wait.");
        for (int v : new int[] {0, -1, 1000, MIN, MAX}) {
            Twins.refused(Rich::fullOfNumbers, "tell(" + v + ")", FULL, x -> x.tell(v));
        }
        NeedleLine x = Rich.fullOfNumbers();
        x.check();
        Due.due("one behind check()", x.tell(0), 1);
    }

    private static void promise42AnyNumber() {
        Due.sentence("One more number waits: how many.");
        NeedleLine x = new NeedleLine();
        int wait = 0;
        for (int v : new int[] {MIN, MAX, -1000000000, -1000000001, 0, -1}) {
            wait++;
            Due.due("tell(" + v + ")", x.tell(v), wait);
        }
        Due.due("told(1)", x.told(1), 0);
    }

    /** THE LINE of three MILES, with SIDES 5, 5, -10. */
    private static NeedleLine ofThree() {
        NeedleLine x = new NeedleLine();
        x.miles(3);
        x.mile(0, 0, 5);
        x.mile(2, 0, -15);
        return x;
    }

    /** THE LINE of four MILES, with SIDES 0, 0, 0, 7: a POST at 0 is one that lacks, too, if no number is its. */
    private static NeedleLine ofFour() {
        NeedleLine x = new NeedleLine();
        x.miles(4);
        x.mile(3, 0, 7);
        return x;
    }

    private static void check(NeedleLine x, int due, int... numbers) {
        for (int number : numbers) {
            x.tell(number);
        }
        Due.due("check() of " + java.util.Arrays.toString(numbers), x.check(), due);
        Due.due("how many wait then", x.count(5), 0);
    }

    private static void promise43AllAreSides() {
        Due.sentence("The numbers that wait (none do then) are SIDES of POSTS 1, 2, .. of THE LINE: 0;");
        check(ofThree(), 0, 5, 5, -10);
    }

    private static void promise43PlaceOfTheFirst() {
        Due.sentence("else 1 and the place of the first that isn't so");
        check(ofThree(), 1, 4, 5, -10);
        check(ofThree(), 1, 6, 6, -9);
        check(ofThree(), 2, 5, 6, -10);
        check(ofThree(), 2, 5, -5, -11);
        check(ofThree(), 3, 5, 5, -9);
        check(ofThree(), 3, 5, 5, 10);
    }

    private static void promise43OneThatLacks() {
        Due.sentence("(one that lacks, or is too many, too)");
        check(ofThree(), 1);
        check(ofThree(), 2, 5);
        check(ofThree(), 3, 5, 5);
        check(ofThree(), 1, 0);
        check(ofThree(), 2, 5, 0);
        check(ofFour(), 1);
        check(ofFour(), 3, 0, 0);
        NeedleLine x = ofFour();
        check(x, 0, 0, 0, 0, 7);
        check(x, 4, 0, 0, 0);
        check(x, 2, 0);
    }

    private static void promise43OneTooMany() {
        Due.sentence("(one that lacks, or is too many, too)");
        check(ofThree(), 4, 5, 5, -10, -10);
        check(ofThree(), 4, 5, 5, -10, 0, 0);
        check(ofThree(), 3, 5, 5, 0, 0);
        check(ofThree(), 1, 0, 5, 5, -10);
        check(ofFour(), 5, 0, 0, 0, 7, 0, 7);
    }

    private static void promise43NoneWaitThen() {
        Due.sentence("The numbers that wait (none do then)");
        NeedleLine x = ofThree();
        check(x, 3, 5, 5, 0);
        check(x, 0, 5, 5, -10);
        check(x, 1);
        check(x, 4, 5, 5, -10, 7);
        check(x, 0, 5, 5, -10);
    }

    private static void promise43TheLongestAndTheShortestLine() {
        Due.sentence("are SIDES of POSTS 1, 2, .. of THE LINE: 0; else 1 and the place of the first that isn't so");
        NeedleLine x = new NeedleLine();
        x.miles(24);
        check(x, 0, new int[24]);
        check(x, 24, new int[23]);
        check(x, 1);
        x.mile(23, 0, 1);
        check(x, 24, new int[24]);
        int[] last = new int[24];
        last[23] = 1;
        check(x, 0, last);
        x.miles(23);
        check(x, 24, new int[24]);
        check(x, 0, new int[23]);
        x.miles(1);
        check(x, 0, 0);
        check(x, 2, new int[24]);
    }

    private static void promise43GreatNumbers() {
        Due.sentence("else 1 and the place of the first that isn't so");
        for (int number : new int[] {MIN, MAX, -1000000001, 1 << 16, 256, 5 + 256, 5 + 65536}) {
            check(ofThree(), 2, 5, number, -10);
        }
    }

    private static void promise44Bounds() {
        Due.sentence("6 BODIES in THE TRACE, 7 z (any number). BEYOND.");
        for (int what : new int[] {-1, 8, MIN, MAX}) {
            Twins.refused("count(" + what + ")", BEYOND, x -> x.count(what));
        }
        int[] due = {5, 7, 6, 2, 5, 5, 2};
        for (int what = 0; what < due.length; what++) {
            Due.due("count(" + what + ")", Rich.open().count(what), due[what]);
        }
    }

    private static void promise44EmptyAndFull() {
        Due.sentence("0 MILES, 1 SLIPS, 2 TREES, 3 CHECKS of THE LINE, 4 bytes of THE TAPE, 5 numbers that wait");
        Due.due("SLIPS", Rich.fullOfSlips().count(1), 8);
        Due.due("TREES", Rich.fullOfTrees().count(2), 16);
        Due.due("bytes", Rich.withTape(60).count(4), 60);
        Due.due("numbers", Rich.fullOfNumbers().count(5), 24);
        NeedleLine x = new NeedleLine();
        for (int what = 1; what <= 6; what++) {
            Due.due("count(" + what + ") of a new object", x.count(what), 0);
        }
    }

    private static void promise44ChecksOfTheLine() {
        Due.sentence("3 CHECKS of THE LINE");
        NeedleLine x = new NeedleLine();
        for (int mile = 0; mile < 24; mile++) {
            x.mile(mile, 3, 1);
        }
        for (int n : new int[] {1, 12, 23, 24}) {
            x.miles(n);
            Due.due("CHECKS of " + n + " MILES", x.count(3), n);
        }
        x.mile(23, 3, 0);
        Due.due("CHECKS of all but one", x.count(3), 23);
    }

    private static void promise44AnyNumber() {
        Due.sentence("7 z (any number)");
        NeedleLine x = new NeedleLine();
        for (int z : new int[] {MIN, MAX, 0, -1, -1000000001, -1000000006}) {
            x.seed(z);
            Due.due("count(7)", x.count(7), z);
        }
        for (int k = 1; k <= 6; k++) {
            Due.due("told(" + k + ")", x.told(k), 0);
        }
    }

    private static void promise45() {
        Due.sentence("How many acts have answered an ERROR LOW - k (k 1 .. 6)");
        NeedleLine x = new NeedleLine();
        x.slip(0, 0, 0);
        int[] often = {0, 1, 2, 3, 4, 5, 6};
        for (int i = 0; i < 24; i++) {
            x.tell(0);
        }
        for (int i = 0; i < 6; i++) {
            x.voice(0, 3, 0);
            if (i < 5) {
                x.as(0, 6);
            }
            if (i < 4) {
                x.tell(0);
            }
            if (i < 3) {
                x.sheet(0, 8, -1);
            }
            if (i < 2) {
                x.restore();
            }
        }
        x.straight(9);
        for (int k = 1; k <= 6; k++) {
            Due.due("told(" + k + ")", x.told(k), often[k]);
        }
    }

    private static void promise45AnotherK() {
        Due.sentence("BEYOND: another k (counted, too).");
        NeedleLine x = new NeedleLine();
        int counted = 0;
        for (int k : new int[] {0, 7, -1, 8, MIN, MAX}) {
            Due.due("told(" + k + ")", x.told(k), BEYOND);
            counted++;
            Due.due("told(1)", x.told(1), counted);
            Twins.refused("told(" + k + ")", BEYOND, line -> line.told(k));
        }
        for (int k = 2; k <= 6; k++) {
            Due.due("told(" + k + ")", x.told(k), 0);
        }
    }

    private static void promise45TakenCallsDontCount() {
        Due.sentence("How many acts have answered an ERROR");
        NeedleLine x = Rich.open();
        x.text(0);
        x.check();
        x.image();
        x.stone(-9999, 0);
        for (int k = 1; k <= 6; k++) {
            Due.due("told(" + k + ")", x.told(k), 0);
            Due.due("told(" + k + ") of itself", x.told(k), 0);
        }
    }
}
