/** The sentences on SHEETS and NOTEBOOKS (Terms 3 and 5, promises 35 to 39), each with its boundary cases. */
public final class BoundsOfSheetsTest {
    private static final long BEYOND = -1000000001;
    private static final long NONE = -1000000002;
    private static final long STATE = -1000000003;
    private static final long KIND = -1000000005;

    private static final int MIN = Integer.MIN_VALUE;
    private static final int MAX = Integer.MAX_VALUE;

    public static void main(String[] args) {
        judgedByMoreThan();
        judgedBeyondTheLine();
        judgedWithoutWrapping();
        stepOfTheFirst();
        stepsWrap();
        evenFromTheSecondOn();
        madeUpByThree();
        madeUpOneRightBehindTheOther();
        sheetsAreMissingAtFirst();
        sheetsOfBits();
        sheetsOfNumbers();
        promise35Bounds();
        promise35AllZero();
        promise35Missing();
        promise35State();
        promise36Bounds();
        promise36LowestBitsOf8();
        promise36LowestBitsOf16();
        promise36LowestBitsOf32();
        promise36None();
        promise36NoNumbers();
        promise37NoSuchSheet();
        promise37Missing();
        promise37UnlikeBits();
        promise37DontStandThere();
        promise37AtTheEnds();
        promise37NoneOfThem();
        promise37AsTheyWere();
        promise37TheOneTheyComeFromStays();
        promise38();
        promise38Missing();
        promise38NoneIsSo();
        promise38EmptyAndFull();
        promise39();
        promise39Missing();
        promise39EmptyAndFull();
        Due.end();
    }

    private static NeedleLine with(int bits, int... numbers) {
        NeedleLine x = new NeedleLine();
        x.sheet(0, bits, numbers.length);
        for (int i = 0; i < numbers.length; i++) {
            x.put(0, i, numbers[i]);
        }
        return x;
    }

    /**
     * Whether a number is this one: two numbers are put ahead of it so that its STEP is that of the one
     * ahead of it if it is, and it alone has such a STEP. (It can't be told so of 0, 3 and -3.)
     */
    private static boolean is(NeedleLine x, int sheet, int bits, int number) {
        int ahead = number / 2 + number % 2;
        x.sheet(3, bits, 3);
        x.put(3, 0, 2 * ahead - number);
        x.put(3, 1, ahead);
        x.move(sheet, 0, 3, 2, 1);
        return number % 3 == 0 && number / 3 == 2 * ahead - number ? false : x.even(3, 0) == 1;
    }

    private static void becomes(int bits, int put, int number) {
        Due.isTrue(put + " is " + number + " in " + bits + " bits", is(with(bits, put), 0, bits, number));
    }

    private static void judgedByMoreThan() {
        Due.sentence("JUDGED by e: the first POST whose number is by more than e other than its SIDE");
        NeedleLine x = with(32, 10, -10);
        x.miles(2);
        int[] es = {0, 9, 10, 11, 9999};
        int[] due = {1, 1, 0, 0, 0};
        for (int i = 0; i < es.length; i++) {
            Due.due("judge(0, " + es[i] + ")", x.judge(0, es[i]), due[i]);
        }
        x.put(0, 1, -11);
        Due.due("judge(0, 10), the second by 11", x.judge(0, 10), 2);
        Due.due("judge(0, 9), the first of two", x.judge(0, 9), 1);
        x.mile(1, 0, -11);
        x.mile(0, 0, 10);
        Due.due("judge(0, 9), the second by 10", x.judge(0, 9), 2);
        x.mile(1, 0, -21);
        Due.due("judge(0, 0), both their SIDES", x.judge(0, 0), 0);
    }

    private static void judgedBeyondTheLine() {
        Due.sentence("(those beyond THE LINE: also one)");
        NeedleLine x = with(8, 0, 0, 0);
        for (int n = 1; n <= 4; n++) {
            x.miles(n);
            Due.due("three numbers, " + n + " MILES", x.judge(0, 9999), n < 3 ? n + 1 : 0);
        }
        x.put(0, 1, 5);
        x.miles(1);
        Due.due("the first beyond, not the one that is wrong", x.judge(0, 0), 2);
        x.miles(2);
        Due.due("one that is wrong ahead of one beyond", x.judge(0, 4), 2);
        Due.due("the one beyond", x.judge(0, 5), 3);
    }

    private static void judgedWithoutWrapping() {
        Due.sentence("whose number is by more than e other than its SIDE");
        for (int iron : new int[] {-99, 0, 99}) {
            for (int number : new int[] {MIN, MIN + 99, MAX - 99, MAX}) {
                NeedleLine x = with(32, number);
                x.mile(0, 0, iron);
                Due.due("judge of " + number + " at SIDE " + iron, x.judge(0, 9999), 1);
            }
        }
        for (int far : new int[] {-9999, 9999}) {
            NeedleLine x = with(32, far);
            Due.due("judge(0, 9999) of " + far, x.judge(0, 9999), 0);
            x.put(0, 0, far + (far < 0 ? -1 : 1));
            Due.due("judge(0, 9999) of one more", x.judge(0, 9999), 1);
        }
    }

    private static void even(NeedleLine x, int many, int madeUp) {
        Due.due("even(0, 0)", x.even(0, 0), many);
        Due.due("even(0, 1)", x.even(0, 1), madeUp);
    }

    private static void stepOfTheFirst() {
        Due.sentence("STEP of a number: it less the one ahead of it (0 ahead of the first; ints that wrap).");
        even(with(8, 5, 10), 1, 0);
        even(with(8, 5, 5), 0, 0);
        even(with(8, 5, 0), 0, 0);
        even(with(8, 0, 0), 1, 0);
        even(with(8, -5, -10), 1, 0);
    }

    private static void stepsWrap() {
        Due.sentence("(0 ahead of the first; ints that wrap)");
        even(with(32, MAX, -2), 1, 0);
        even(with(32, MIN, 0), 1, 0);
        even(with(32, MIN, 0, MIN, 0), 3, 1);
        even(with(32, 0, MIN, 0), 1, 0);
        even(with(32, 1 << 30, MIN, -(1 << 30), 0), 3, 1);
        // In rows of fewer bits the numbers are cut, their STEPS are not: 127 to -128 is -255.
        even(with(8, 1, 127, -128, -127), 0, 0);
        even(with(8, 100, -56), 0, 0);
        even(with(16, 16384, -32768), 0, 0);
        even(with(32, 16384, -32768), 0, 0);
    }

    private static void evenFromTheSecondOn() {
        Due.sentence("EVEN: how many numbers, from the second on, have the STEP of the one ahead of them.");
        even(with(8, 0), 0, 0);
        even(with(8, 7), 0, 0);
        even(with(8, 7, 14), 1, 0);
        even(with(8, 7, 13), 0, 0);
        even(with(8, 1, 3, 5, 8, 11), 2, 0);
    }

    private static void madeUpByThree() {
        Due.sentence("It looks MADE UP, if 3 such or more stand one right behind the other.");
        even(with(8, 2, 4, 6), 2, 0);
        even(with(8, 2, 4, 6, 8), 3, 1);
        even(with(8, 2, 4, 6, 8, 10), 4, 1);
        even(with(8, 9, 2, 4, 6), 1, 0);
        even(with(8, 9, 2, 4, 6, 8), 2, 0);
        even(with(8, 9, 2, 4, 6, 8, 10), 3, 1);
        // Nothing stands behind the last number, so no STEP leads from it to 0.
        even(with(8, 4, 3, 2, 1), 2, 0);
        even(with(8, 0, 0, 0), 2, 0);
    }

    private static void madeUpOneRightBehindTheOther() {
        Due.sentence("if 3 such or more stand one right behind the other.");
        even(with(8, 2, 4, 6, 7, 8, 9, 10), 5, 1);
        even(with(8, 2, 4, 6, 7, 8, 9), 4, 0);
        even(with(8, 2, 4, 7, 10, 14, 18), 3, 0);
        even(with(8, 2, 4, 6, 8, 9, 11), 3, 1);
    }

    private static void sheetsAreMissingAtFirst() {
        Due.sentence("or missing (as at first).");
        for (int sheet = 0; sheet < 4; sheet++) {
            int its = sheet;
            Twins.refused(NeedleLine::new, "put(" + sheet + ", 0, 0)", NONE, x -> x.put(its, 0, 0));
            Twins.refused(NeedleLine::new, "judge(" + sheet + ", 0)", NONE, x -> x.judge(its, 0));
            Twins.refused(NeedleLine::new, "even(" + sheet + ", 0)", NONE, x -> x.even(its, 0));
            Twins.refused(NeedleLine::new, "move(" + sheet + ", 0, ..)", NONE, x -> x.move(its, 0, its, 0, 0));
        }
    }

    private static void sheetsOfBits() {
        Due.sentence("SHEETS 0 .. 3 are rows of 8, 16, 32 bits");
        int[] taken = {0, 8, 16, 32};
        for (int bits = -40; bits <= 70; bits++) {
            boolean is = false;
            for (int its : taken) {
                is |= its == bits;
            }
            Due.due("sheet(0, " + bits + ", 3)", new NeedleLine().sheet(0, bits, 3), is ? 1 : BEYOND);
        }
        for (int bits : new int[] {-8, 1, 7, 9, 15, 17, 24, 31, 33, 64, MIN, MAX}) {
            Twins.refused("sheet(0, " + bits + ", 3)", BEYOND, x -> x.sheet(0, bits, 3));
        }
    }

    private static void sheetsOfNumbers() {
        Due.sentence("SHEETS 0 .. 3 are rows of 8, 16, 32 bits, at most 24 numbers");
        for (int bits = 8; bits <= 32; bits *= 2) {
            for (int n : new int[] {0, 1, 24}) {
                NeedleLine x = new NeedleLine();
                Due.due("sheet(3, " + bits + ", " + n + ")", x.sheet(3, bits, n), 1);
                Due.due("its last number", x.put(3, n - 1, 1), n > 0 ? 1 : BEYOND);
                Due.due("one behind it", x.put(3, n, 1), BEYOND);
            }
        }
    }

    private static void promise35Bounds() {
        Due.sentence("A SHEET has n numbers, all 0, of so many bits (8, 16, 32; 0: it is missing, n doesn't matter): 1. BEYOND.");
        Twins.bounds("sheet(*, 8, 2)", 0, 3, (x, v) -> x.sheet(v, 8, 2));
        for (int bits = 8; bits <= 32; bits *= 2) {
            int its = bits;
            Due.due("sheet(0, " + bits + ", 0)", Rich.open().sheet(0, bits, 0), 1);
            Due.due("sheet(0, " + bits + ", 24)", Rich.open().sheet(0, bits, 24), 1);
            for (int n : new int[] {25, 26, MAX}) {
                Twins.refused("sheet(0, " + bits + ", " + n + ")", BEYOND, x -> x.sheet(0, its, n));
            }
        }
    }

    private static void promise35AllZero() {
        Due.sentence("A SHEET has n numbers, all 0");
        NeedleLine x = new NeedleLine();
        x.miles(24);
        x.sheet(0, 8, 24);
        Due.due("all of 24 are 0", x.judge(0, 0), 0);
        for (int i = 0; i < 24; i++) {
            x.put(0, i, 7);
        }
        Due.due("none is 0", x.judge(0, 0), 1);
        x.sheet(0, 8, 24);
        Due.due("all are 0 anew", x.judge(0, 0), 0);
        x.put(0, 0, 7);
        x.put(0, 23, 7);
        x.sheet(0, 32, 1);
        Due.due("the one is 0", x.judge(0, 0), 0);
        x.sheet(0, 32, 24);
        Due.due("the last is 0, too", x.judge(0, 0), 0);
    }

    private static void promise35Missing() {
        Due.sentence("0: it is missing, n doesn't matter");
        for (int n : new int[] {0, 24, 25, -1, MIN, MAX}) {
            NeedleLine x = Rich.open();
            Due.due("sheet(0, 0, " + n + ")", x.sheet(0, 0, n), 1);
            Due.due("it is missing", x.put(0, 0, 0), NONE);
            Due.due("another is not", x.put(1, 0, 0), 1);
            Due.due("told(1)", x.told(1), 0);
            Due.due("told(3)", x.told(3), 0);
        }
        Twins.changesNothing("sheet(3, 0, -1) of one that is missing", 1, x -> x.sheet(3, 0, -1));
        Twins.refused("sheet(4, 0, -1)", BEYOND, x -> x.sheet(4, 0, -1));
    }

    private static void promise35State() {
        Due.sentence("STATE: n is below 0 (ahead of BEYOND of n).");
        for (int bits = 8; bits <= 32; bits *= 2) {
            int its = bits;
            for (int n : new int[] {-1, -2, MIN}) {
                Twins.refused("sheet(0, " + bits + ", " + n + ")", STATE, x -> x.sheet(0, its, n));
                Twins.refused("sheet(3, " + bits + ", " + n + ")", STATE, x -> x.sheet(3, its, n));
            }
        }
    }

    private static void promise36Bounds() {
        Due.sentence("Number i of a SHEET becomes v (its lowest bits): 1. BEYOND: no such SHEET.");
        Twins.bounds(BoundsOfSheetsTest::allThere, "put(*, 0, 1)", 0, 3, (x, v) -> x.put(v, 0, 1));
        Due.sentence("BEYOND: no such number.");
        Twins.bounds("put(0, *, 1) of five", 0, 4, (x, v) -> x.put(0, v, 1));
        Twins.bounds("put(2, *, 1) of four", 0, 3, (x, v) -> x.put(2, v, 1));
    }

    private static void promise36LowestBitsOf8() {
        Due.sentence("Number i of a SHEET becomes v (its lowest bits): 1.");
        becomes(8, 127, 127);
        becomes(8, 128, -128);
        becomes(8, 255, -1);
        becomes(8, 257, 1);
        becomes(8, -128, -128);
        becomes(8, -129, 127);
        becomes(8, -257, -1);
        becomes(8, MAX, -1);
        becomes(8, MIN + 5, 5);
        Due.isTrue("127 is not 126", !is(with(8, 127), 0, 8, 126));
    }

    private static void promise36LowestBitsOf16() {
        Due.sentence("Number i of a SHEET becomes v (its lowest bits): 1.");
        becomes(16, 128, 128);
        becomes(16, 32767, 32767);
        becomes(16, 32768, -32768);
        becomes(16, 65535, -1);
        becomes(16, 65537, 1);
        becomes(16, -32768, -32768);
        becomes(16, -32769, 32767);
        becomes(16, MAX, -1);
        becomes(16, MIN + 5, 5);
    }

    private static void promise36LowestBitsOf32() {
        Due.sentence("Number i of a SHEET becomes v (its lowest bits): 1.");
        becomes(32, 32768, 32768);
        becomes(32, 65536, 65536);
        becomes(32, MAX, MAX);
        becomes(32, MIN, MIN);
        becomes(32, -1, -1);
    }

    private static void promise36None() {
        Due.sentence("BEYOND: no such SHEET. NONE: it is missing. BEYOND: no such number.");
        for (int i : new int[] {0, -1, 24, MIN, MAX}) {
            Twins.refused("put(3, " + i + ", 1)", NONE, x -> x.put(3, i, 1));
            Twins.refused("put(4, " + i + ", 1)", BEYOND, x -> x.put(4, i, 1));
        }
        Due.due("put(0, 4, 1)", Rich.open().put(0, 4, 1), 1);
    }

    private static NeedleLine emptySheet() {
        NeedleLine x = Rich.open();
        x.sheet(0, 8, 0);
        return x;
    }

    private static void promise36NoNumbers() {
        Due.sentence("BEYOND: no such number.");
        for (int i : new int[] {-1, 0, 1}) {
            Twins.refused(BoundsOfSheetsTest::emptySheet, "put(0, " + i + ", 1) of none", BEYOND, x -> x.put(0, i, 1));
        }
    }

    private static void promise37NoSuchSheet() {
        Due.sentence("BEYOND: no such SHEET. NONE: one is missing. KIND: they are of unlike bits.");
        for (int sheet : new int[] {-1, 4, MIN, MAX}) {
            Twins.refused("move(" + sheet + ", 0, 1, 0, 1)", BEYOND, x -> x.move(sheet, 0, 1, 0, 1));
            Twins.refused("move(1, 0, " + sheet + ", 0, 1)", BEYOND, x -> x.move(1, 0, sheet, 0, 1));
        }
        Due.due("move(2, 0, 1, 0, 4)", Rich.open().move(2, 0, 1, 0, 4), 4);
        NeedleLine x = new NeedleLine();
        x.sheet(0, 8, 1);
        x.sheet(3, 8, 1);
        Due.due("from the first to the last", x.move(0, 0, 3, 0, 1), 1);
        Due.due("from the last to the first", x.move(3, 0, 0, 0, 1), 1);
    }

    private static void promise37Missing() {
        Due.sentence("NONE: one is missing.");
        Twins.refused("move(3, 0, 0, 0, 1)", NONE, x -> x.move(3, 0, 0, 0, 1));
        Twins.refused("move(0, 0, 3, 0, 1)", NONE, x -> x.move(0, 0, 3, 0, 1));
        Twins.refused("move(3, 0, 3, 0, 0)", NONE, x -> x.move(3, 0, 3, 0, 0));
    }

    private static void promise37UnlikeBits() {
        Due.sentence("KIND: they are of unlike bits.");
        int[] bits = {8, 16, 32};
        for (int from : bits) {
            for (int to : bits) {
                NeedleLine x = new NeedleLine();
                x.sheet(0, from, 1);
                x.sheet(1, to, 1);
                Due.due("move from " + from + " bits to " + to, x.move(0, 0, 1, 0, 1), from == to ? 1 : KIND);
                Due.due("none of them, too", x.move(0, 0, 1, 0, 0), from == to ? 0 : KIND);
            }
        }
        Twins.refused("move(0, 0, 1, 0, 5)", KIND, x -> x.move(0, 0, 1, 0, 5));
    }

    private static void promise37DontStandThere() {
        Due.sentence("BEYOND: n, i, or j is below 0, or they don't stand there.");
        // From SHEET 1, of five numbers, to SHEET 2, of four.
        int[][] refused = {
            {0, 0, -1}, {-1, 0, 1}, {0, -1, 1}, {0, 0, MIN}, {MIN, 0, 1}, {0, MIN, 1}, {-1, 0, 0}, {0, -1, 0},
            {0, 0, 5}, {2, 0, 4}, {5, 0, 1}, {6, 0, 0}, {0, 1, 4}, {0, 4, 1}, {0, 5, 0}, {0, 0, 25}, {1, 1, -1},
            {0, 0, MAX}, {MAX, 0, 1}, {0, MAX, 1}, {MAX, 0, MAX}, {0, MAX, MAX}, {MAX, MAX, 0}, {5, 4, MAX}
        };
        for (int[] its : refused) {
            Twins.refused("move(1, " + its[0] + ", 2, " + its[1] + ", " + its[2] + ")", BEYOND,
                    x -> x.move(1, its[0], 2, its[1], its[2]));
        }
    }

    private static void promise37AtTheEnds() {
        Due.sentence("n numbers of a SHEET, from number i on, come to another one (or the same), from its number j on");
        int[][] taken = {{0, 0, 4}, {1, 0, 4}, {0, 1, 3}, {4, 3, 1}, {4, 0, 1}, {0, 3, 1}};
        for (int[] its : taken) {
            NeedleLine x = with(32, 11, 22, 33, 44, 55);
            x.sheet(2, 32, 4);
            Due.due("move(0, " + its[0] + ", 2, " + its[1] + ", " + its[2] + ")", x.move(0, its[0], 2, its[1], its[2]), its[2]);
            int[] due = new int[4];
            for (int number = 0; number < its[2]; number++) {
                due[its[1] + number] = 11 * (its[0] + number + 1);
            }
            holds(x, 2, due);
            holds(x, 0, 11, 22, 33, 44, 55);
        }
    }

    private static void promise37NoneOfThem() {
        Due.sentence("n numbers of a SHEET, from number i on, come to another one");
        int[][] ends = {{0, 0}, {5, 4}, {5, 0}, {0, 4}};
        for (int[] its : ends) {
            Twins.changesNothing("move(1, " + its[0] + ", 2, " + its[1] + ", 0)", 0, x -> x.move(1, its[0], 2, its[1], 0));
        }
        Twins.changesNothing("move(0, 5, 0, 5, 0)", 0, x -> x.move(0, 5, 0, 5, 0));
        Due.due("of none to none", emptySheet().move(0, 0, 0, 0, 0), 0);
        Due.due("of none, one", emptySheet().move(0, 0, 0, 0, 1), BEYOND);
    }

    /** The LINE is laid by numbers, no two side by side over 99 apart, and a SHEET is JUDGED by 0. */
    private static void holds(NeedleLine x, int sheet, int... numbers) {
        x.miles(numbers.length);
        for (int i = 0; i < numbers.length; i++) {
            x.mile(i, 0, numbers[i] - (i == 0 ? 0 : numbers[i - 1]));
        }
        Due.due("SHEET " + sheet + " holds " + java.util.Arrays.toString(numbers), x.judge(sheet, 0), 0);
    }

    private static void promise37AsTheyWere() {
        Due.sentence("(or the same), from its number j on, as they all were: n.");
        for (int bits = 8; bits <= 32; bits *= 2) {
            NeedleLine on = with(bits, 11, 22, 33, 44, 55);
            Due.due("a number on", on.move(0, 0, 0, 1, 4), 4);
            holds(on, 0, 11, 11, 22, 33, 44);
            NeedleLine back = with(bits, 11, 22, 33, 44, 55);
            Due.due("a number back", back.move(0, 1, 0, 0, 4), 4);
            holds(back, 0, 22, 33, 44, 55, 55);
            NeedleLine same = with(bits, 11, 22, 33, 44, 55);
            Due.due("to where they are", same.move(0, 0, 0, 0, 5), 5);
            holds(same, 0, 11, 22, 33, 44, 55);
        }
    }

    private static void promise37TheOneTheyComeFromStays() {
        Due.sentence("come to another one (or the same)");
        NeedleLine x = with(16, 11, 22, 33);
        x.sheet(1, 16, 4);
        x.move(0, 0, 1, 1, 3);
        holds(x, 0, 11, 22, 33);
        holds(x, 1, 0, 11, 22, 33);
        x.put(1, 1, 12);
        holds(x, 0, 11, 22, 33);
    }

    private static void promise38() {
        Due.sentence("A NOTEBOOK is JUDGED by e (0 .. 9999): the POST; 0: none is so. BEYOND. NONE: it is missing.");
        Twins.bounds("judge(0, *)", 0, 9999, (x, v) -> x.judge(0, v));
        Twins.bounds(BoundsOfSheetsTest::allThere, "judge(*, 0)", 0, 3, (x, v) -> x.judge(v, 0));
    }

    private static NeedleLine allThere() {
        NeedleLine x = Rich.open();
        x.sheet(3, 16, 5);
        return x;
    }

    private static void promise38Missing() {
        Due.sentence("BEYOND. NONE: it is missing.");
        Twins.refused("judge(3, 0)", NONE, x -> x.judge(3, 0));
        Twins.refused("judge(3, 9999)", NONE, x -> x.judge(3, 9999));
        Twins.refused("judge(3, -1)", BEYOND, x -> x.judge(3, -1));
    }

    private static void promise38NoneIsSo() {
        Due.sentence("the POST; 0: none is so.");
        for (int sheet = 0; sheet < 3; sheet++) {
            int its = sheet;
            Twins.changesNothing("judge(" + sheet + ", 0)", 0, x -> x.judge(its, 0));
        }
    }

    private static void promise38EmptyAndFull() {
        Due.sentence("the POST; 0: none is so.");
        NeedleLine x = with(8);
        Due.due("judge(0, 0) of no numbers", x.judge(0, 0), 0);
        x.miles(24);
        x.sheet(0, 32, 24);
        Due.due("judge(0, 0) of 24", x.judge(0, 0), 0);
        x.mile(23, 0, 1);
        Due.due("judge(0, 0), the last of 24", x.judge(0, 0), 24);
        Due.due("judge(0, 1), none of 24", x.judge(0, 1), 0);
        x.miles(23);
        Due.due("judge(0, 9999), the last of 24 beyond", x.judge(0, 9999), 24);
        x.miles(1);
        Due.due("judge(0, 9999), all but the first beyond", x.judge(0, 9999), 2);
    }

    private static void promise39() {
        Due.sentence("EVEN of a NOTEBOOK: what 0 how many, 1 whether it looks MADE UP (1, 0). BEYOND. NONE.");
        Twins.bounds("even(0, *)", 0, 1, (x, v) -> x.even(0, v));
        Twins.bounds(BoundsOfSheetsTest::allThere, "even(*, 0)", 0, 3, (x, v) -> x.even(v, 0));
        Twins.bounds(BoundsOfSheetsTest::allThere, "even(*, 1)", 0, 3, (x, v) -> x.even(v, 1));
    }

    private static void promise39Missing() {
        Due.sentence("(1, 0). BEYOND. NONE.");
        Twins.refused("even(3, 0)", NONE, x -> x.even(3, 0));
        Twins.refused("even(3, 1)", NONE, x -> x.even(3, 1));
        Twins.refused("even(3, 2)", BEYOND, x -> x.even(3, 2));
    }

    private static void promise39EmptyAndFull() {
        Due.sentence("EVEN of a NOTEBOOK: what 0 how many, 1 whether it looks MADE UP (1, 0).");
        even(with(8), 0, 0);
        even(with(8, new int[24]), 23, 1);
        int[] rising = new int[24];
        for (int i = 0; i < rising.length; i++) {
            rising[i] = i * i;
        }
        even(with(32, rising), 0, 0);
        rising[22] = 600;
        rising[23] = 2 * rising[22] - rising[21];
        even(with(32, rising), 1, 0);
    }
}
