/** Promises 40 to 45. */
public final class ImagesAndToldTest {
    private static final int BEYOND = -1000000001;
    private static final int NONE = -1000000002;
    private static final int FULL = -1000000004;

    public static void main(String[] args) {
        promise40Image();
        promise41Restore();
        promise41WhatIsNotKept();
        promise42Tell();
        promise43Check();
        promise44Count();
        promise45Told();
        Due.end();
    }

    private static void promise40Image() {
        NeedleLine x = new NeedleLine();
        Due.due("image()", x.image(), 1);
        x.miles(3);
        Due.due("image() in place of one", x.image(), 2);
        x.miles(5);
        Due.due("restore()", x.restore(), 3);
        Due.due("image() counts on", x.image(), 3);
    }

    /** Something of all that an IMAGE keeps. */
    private static void change(NeedleLine x, int by) {
        x.miles(3 + by);
        for (int what = 0; what < 4; what++) {
            x.mile(2, what, what == 3 ? by & 1 : by);
        }
        x.stone(by, 5000 + by);
        x.slip(by, 103, 10 + by);
        x.turn(0, by & 1);
        x.tree(by, by, 100100 + by);
        x.seed(100 * by);
        x.waver(1, 2, 50);
        Texts.told(x, 0, "i*" + by);
        Texts.told(x, 1, "i+" + by);
        x.feed(7, by);
        x.tell(60 + by);
    }

    private static long[] allOf(NeedleLine x) {
        long[] all = new long[400];
        int n = 0;
        for (int what : new int[] {0, 1, 2, 3, 4, 5, 7}) {
            all[n++] = x.count(what);
        }
        for (int i = 0; i < 9; i++) {
            for (int what = 0; what < 9; what++) {
                all[n++] = x.mileIs(i, what);
            }
            for (int what = 0; what < 6; what++) {
                all[n++] = x.post(i, what);
                all[n++] = x.treeIs(i, what);
                all[n++] = x.slipIs(i, what);
            }
        }
        all[n++] = x.miss(0);
        all[n++] = x.miss(1);
        all[n++] = x.hours();
        return all;
    }

    private static boolean isAlike(long[] one, long[] other) {
        for (int i = 0; i < one.length; i++) {
            if (one[i] != other[i]) {
                System.out.println("entry " + i + ": " + one[i] + " and " + other[i]);
                return false;
            }
        }
        return true;
    }

    private static void promise41Restore() {
        NeedleLine x = new NeedleLine();
        Due.due("restore() without an IMAGE", x.restore(), NONE);
        change(x, 3);
        long[] then = allOf(x);
        x.image();
        change(x, 4);
        x.untell(0);
        x.untell(1);
        x.still();
        Due.due("restore()", x.restore(), 6);
        Due.isTrue("all is as it was", isAlike(then, allOf(x)));
        change(x, 5);
        Due.due("restore() again: the IMAGE stays", x.restore(), 6);
        Due.isTrue("all is as it was again", isAlike(then, allOf(x)));
        Due.due("the TAPE's bytes, too: fault", x.text(0), -10);
        x.restore();
        Texts.feed(x, "x");
        x.text(1);
        x.restore();
        Due.due("how many wait", x.count(5), 1);
        NeedleLine plain = new NeedleLine();
        plain.miles(1);
        plain.mile(0, 0, 9);
        plain.tell(9);
        plain.feed(0x32L, 1);
        plain.image();
        plain.tell(8);
        plain.text(1);
        plain.restore();
        Due.due("the numbers that wait are those", plain.check(), 0);
        Due.due("the bytes are those", plain.text(1), 1);
        Due.due("their value", plain.hours(), 2);
        plain.restore();
        Due.due("no TEXT, as in the IMAGE", plain.hours(), 8);
    }

    private static void promise41WhatIsNotKept() {
        NeedleLine x = new NeedleLine();
        x.slip(0, 0, 5);
        x.sheet(0, 8, 1);
        x.image();
        x.sheet(0, 16, 2);
        x.put(0, 1, 5);
        x.voice(0, 2, 1);
        x.miles(0);
        x.restore();
        Due.due("SHEETS stay", x.judge(0, 0), 2);
        Due.due("THE TRACE stays", x.count(6), 3);
        Due.due("body(0)", x.body(0), 12);
        Due.due("what told() tells stays", x.told(1), 1);
        Due.due("how often stays", x.image(), 2);
    }

    private static void promise42Tell() {
        NeedleLine x = new NeedleLine();
        for (int i = 1; i <= 24; i++) {
            Due.due("tell, number " + i, x.tell(i == 1 ? Integer.MIN_VALUE : 0), i);
        }
        Due.due("tell of 25", x.tell(0), FULL);
        Due.due("count(5)", x.count(5), 24);
        x.check();
        Due.due("tell again", x.tell(0), 1);
    }

    private static int checked(NeedleLine x, int... numbers) {
        for (int number : numbers) {
            x.tell(number);
        }
        int answer = x.check();
        Due.due("none wait then", x.count(5), 0);
        return answer;
    }

    private static void promise43Check() {
        NeedleLine x = new NeedleLine();
        x.miles(3);
        x.mile(0, 0, 5);
        x.mile(2, 0, -15);
        Due.due("check() of all", checked(x, 5, 5, -10), 0);
        Due.due("check() of none", checked(x), 1);
        Due.due("check(), one lacks", checked(x, 5, 5), 3);
        Due.due("check(), one too many", checked(x, 5, 5, -10, -10), 4);
        Due.due("check(), the first is wrong", checked(x, 0, 5, -10), 1);
        Due.due("check(), the last is wrong", checked(x, 5, 5, 10), 3);
        Due.due("check(), one wrong, and too few", checked(x, 5, 4), 2);
        Due.due("check(), the last wrong, and too many", checked(x, 5, 5, 0, 0), 3);
        x.miles(24);
        int[] all = new int[24];
        java.util.Arrays.fill(all, -10);
        all[0] = 5;
        all[1] = 5;
        Due.due("check() of 24", checked(x, all), 0);
    }

    private static void promise44Count() {
        NeedleLine x = new NeedleLine();
        x.miles(7);
        x.slip(1, 0, 1);
        x.slip(4, 0, 1);
        x.tree(1, 1, 100100);
        x.mile(6, 3, 1);
        x.mile(7, 3, 1);
        x.feed(0, 5);
        x.tell(1);
        x.tell(1);
        x.tell(1);
        x.voice(1, 0, 0);
        x.seed(-5);
        int[] due = {7, 2, 1, 1, 5, 3, 3, -5};
        for (int what = 0; what < due.length; what++) {
            Due.due("count(" + what + ")", x.count(what), due[what]);
        }
        x.miles(8);
        Due.due("count(3) of a longer LINE", x.count(3), 2);
        Due.due("count(8)", x.count(8), BEYOND);
        Due.due("count(-1)", x.count(-1), BEYOND);
    }

    private static void promise45Told() {
        NeedleLine x = new NeedleLine();
        x.miles(0);
        x.restore();
        x.restore();
        x.sheet(0, 8, -1);
        x.feed(0, 9);
        for (int i = 0; i < 8; i++) {
            x.slip(0, 0, 0);
        }
        for (int i = 0; i < 4; i++) {
            x.slip(0, 0, 0);
        }
        for (int i = 0; i < 5; i++) {
            x.as(0, 1);
        }
        x.voice(0, 3, 5);
        x.straight(2);
        int[] due = {3, 2, 1, 4, 5, 1};
        for (int k = 1; k <= 6; k++) {
            Due.due("told(" + k + ")", x.told(k), due[k - 1]);
        }
        Due.due("told(0)", x.told(0), BEYOND);
        Due.due("told(7)", x.told(7), BEYOND);
        Due.due("told(-1)", x.told(-1), BEYOND);
        Due.due("told(MIN)", x.told(Integer.MIN_VALUE), BEYOND);
        Due.due("told(1): those, too", x.told(1), 7);
    }
}
