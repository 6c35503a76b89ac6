/** Promises 14 to 25. */
public final class PostsTest {
    private static final int BEYOND = -1000000001;
    private static final int NONE = -1000000002;

    public static void main(String[] args) {
        promise14Post();
        promise14PostsMoved();
        promise15Miss();
        promise16Wronged();
        promise17Which();
        promise17WhichOfSeveral();
        promise18Checks();
        promise18ChecksByTwo();
        promise19Hours();
        promise20Within();
        promise21Leaning();
        promise22Straight();
        promise23OffIt();
        promise24Nearest();
        promise25Crosses();
        Due.end();
    }

    /** Irons that bring POSTS 1, 2, .. to these SIDES. */
    private static NeedleLine withSides(int... sides) {
        NeedleLine x = new NeedleLine();
        x.miles(sides.length);
        for (int i = 0; i < sides.length; i++) {
            x.mile(i, 0, sides[i] - (i == 0 ? 0 : sides[i - 1]));
        }
        return x;
    }

    private static void promise14Post() {
        NeedleLine x = withSides(5, -4, 20);
        x.mile(1, 1, 9);
        x.mile(2, 3, 1);
        x.slip(1, 2, 7);
        x.slip(2, 1, -3);
        int[] sides = {0, 12, 10, 34};
        int[] alongs = {0, 1763, 1763 + 1733 + 30, 1763 + 1733 + 30 + 1760};
        for (int i = 0; i <= 3; i++) {
            Due.due("post(" + i + ", 0)", x.post(i, 0), sides[i]);
            Due.due("post(" + i + ", 1)", x.post(i, 1), alongs[i]);
        }
        Due.due("post(4, 0)", x.post(4, 0), BEYOND);
        Due.due("post(-1, 0)", x.post(-1, 0), BEYOND);
        Due.due("post(0, 6)", x.post(0, 6), BEYOND);
        Due.due("post(0, -1)", x.post(0, -1), BEYOND);
        x.tree(3, 0, 100100);
        x.tree(3, 5, 100100);
        x.tree(1, 0, 100100);
        x.tree(4, 0, 100100);
        int[] trees = {0, 1, 0, 2};
        for (int i = 0; i <= 3; i++) {
            Due.due("post(" + i + ", 5)", x.post(i, 5), trees[i]);
        }
    }

    private static void promise14PostsMoved() {
        NeedleLine x = withSides(10, 20, 37);
        x.stone(0, 5000);
        int[] movings = {0, 33, 66, 100};
        for (int i = 0; i <= 3; i++) {
            Due.due("post(" + i + ", 4)", x.post(i, 4), movings[i]);
        }
        Due.due("post(1, 2)", x.post(1, 2), 10 - 12);
        Due.due("post(2, 2)", x.post(2, 2), 20 - 24);
        Due.due("post(3, 2)", x.post(3, 2), 0);
        Due.due("post(1, 3)", x.post(1, 3), 1760 - 92);
        Due.due("post(3, 3)", x.post(3, 3), 5000);
        x.stone(74, 5560);
        Due.due("post(1, 2): cut toward 0", x.post(1, 2), 10 + 12);
        Due.due("post(1, 3): cut toward 0", x.post(1, 3), 1760 + 92);
        Texts.told(x, 0, "50");
        Due.due("POST 0 is moved, too: SIDE", x.post(0, 2), 18);
        Due.due("POST 0 is moved, too: ALONG", x.post(0, 3), 140);
        Due.due("POST 0 went", x.post(0, 0), 0);
    }

    private static void promise15Miss() {
        NeedleLine x = withSides(5, -40);
        x.stone(2, 3600);
        Due.due("miss(0)", x.miss(0), -42);
        Due.due("miss(1)", x.miss(1), -80);
        Due.due("miss(2)", x.miss(2), 122);
        Due.due("miss(3)", x.miss(3), BEYOND);
        Due.due("miss(-1)", x.miss(-1), BEYOND);
    }

    private static void promise16Wronged() {
        NeedleLine x = withSides(0, 0, 0, 40);
        Due.due("wronged(10)", x.wronged(10), 15);
        Due.due("wronged(11)", x.wronged(11), 14);
        Due.due("wronged(20)", x.wronged(20), 14);
        Due.due("wronged(21)", x.wronged(21), 12);
        Due.due("wronged(30)", x.wronged(30), 12);
        Due.due("wronged(31)", x.wronged(31), 8);
        Due.due("wronged(40)", x.wronged(40), 8);
        Due.due("wronged(41)", x.wronged(41), 0);
        x.mile(3, 0, -40);
        Due.due("wronged(20) to the left", x.wronged(20), 14);
        Texts.told(x, 0, "(i=2)*100");
        Due.due("wronged(40): of POST 2 alone", x.wronged(40), 6);
        Texts.told(x, 0, "(i=0)*100");
        Due.due("wronged(40): of POST 0 alone", x.wronged(40), 1);
        Due.due("wronged(9999)", x.wronged(9999), 0);
        Due.due("wronged(0)", x.wronged(0), BEYOND);
        Due.due("wronged(10000)", x.wronged(10000), BEYOND);
        NeedleLine long24 = new NeedleLine();
        long24.miles(24);
        long24.stone(9999, 0);
        Due.due("wronged(1) of 24", long24.wronged(1), (1 << 24) - 1);
        Due.due("wronged(9999) of 24", long24.wronged(9999), 1 << 23);
    }

    private static void promise17Which() {
        NeedleLine x = new NeedleLine();
        x.miles(2);
        x.stone(10, 3520);
        Due.due("which(0) without slips", x.which(0), NONE);
        Due.due("which(2) without slips: BEYOND is asked first", x.which(2), BEYOND);
        Due.due("which(-1)", x.which(-1), BEYOND);
        x.slip(4, 1, 3);
        x.slip(4, 101, 20);
        x.slip(2, 0, 5);
        Due.due("which(0)", x.which(0), 1);
        Due.due("which(1)", x.which(1), 6);
        x.turn(1, 0);
        Due.due("which(0) of those that are on", x.which(0), 2);
        Due.due("which(1) of those that are on", x.which(1), 1);
        x.turn(0, 0);
        x.turn(2, 0);
        Due.due("which(1) of none on", x.which(1), NONE);
        x.turn(0, 1);
        Due.due("which(0) of one", x.which(0), 0);
        Due.due("which(1) of one", x.which(1), 10);
        Due.due("the line is as it was", x.post(2, 0), 9);
    }

    private static void promise17WhichOfSeveral() {
        NeedleLine x = new NeedleLine();
        x.slip(0, 0, 0);
        x.slip(1, 1111, 5);
        x.slip(4, 1111, 5);
        Due.due("which(0), of several the least", x.which(0), 1);
        Due.due("which(1)", x.which(1), 5);
    }

    private static void promise18Checks() {
        NeedleLine x = new NeedleLine();
        x.miles(4);
        x.slip(4, 3, 10);
        x.mile(2, 3, 1);
        x.stone(60, 0);
        Due.due("checks(1, 0)", x.checks(1, 0), 4);
        Due.due("checks(1, 1)", x.checks(1, 1), 0);
        x.stone(65, 0);
        Due.due("checks(1, 0), of several the least", x.checks(1, 0), 2);
        x.stone(100, 0);
        Due.due("checks(1, 0): MILE 0", x.checks(1, 0), 1);
        Due.due("checks(1, 1): MILE 0", x.checks(1, 1), 0);
        x.mile(3, 0, 9);
        Due.due("checks(1, 1): with IRON", x.checks(1, 1), 9);
        x.stone(99, 0);
        Due.due("checks(1, 1): with IRON to the right", x.checks(1, 1), 10);
        Due.due("the CHECKS stay", x.count(3), 1);
        Due.due("mileIs(2, 3)", x.mileIs(2, 3), 1);
        Due.due("checks(0, 0)", x.checks(0, 0), BEYOND);
        Due.due("checks(3, 0)", x.checks(3, 0), BEYOND);
        Due.due("checks(1, 2)", x.checks(1, 2), BEYOND);
        Due.due("checks(1, -1)", x.checks(1, -1), BEYOND);
        x.miles(1);
        Due.due("checks(2, 0) of one MILE", x.checks(2, 0), NONE);
        Due.due("checks(2, 2) of one MILE: BEYOND is asked first", x.checks(2, 2), BEYOND);
        Due.due("checks(1, 0) of one MILE", x.checks(1, 0), 1);
    }

    private static void promise18ChecksByTwo() {
        NeedleLine x = new NeedleLine();
        x.miles(6);
        x.slip(4, 5, 10);
        x.stone(0, 0);
        Due.due("checks(2, 0)", x.checks(2, 0), 1 << 2 | 1 << 4);
        Due.due("checks(2, 1)", x.checks(2, 1), 90);
        x.stone(9999, 0);
        Due.due("checks(2, 0): MILES 0 and 1, or 0 and 5", x.checks(2, 0), 1 | 1 << 1);
        Due.due("checks(2, 1) so", x.checks(2, 1), 9999 - 160);
        x.miles(3);
        Due.due("checks(2, 0): MILES 0 and 1 of three, the greatest SIDE", x.checks(2, 0), 3);
        x.stone(0, 0);
        Due.due("checks(2, 0): MILES 1 and 2 of three, the least SIDE", x.checks(2, 0), 6);
        Due.due("checks(2, 1): MILES 1 and 2 of three", x.checks(2, 1), 30);
        x.stone(9999, 0);
        x.miles(2);
        Due.due("checks(2, 0) of two MILES", x.checks(2, 0), 3);
        Due.due("checks(2, 1) of two MILES", x.checks(2, 1), 9999 - 20);
        x.miles(24);
        x.slip(4, 2323, 99);
        x.stone(0, 0);
        x.turn(0, 0);
        x.slip(4, 2222, 99);
        Due.due("checks(2, 0) of MILES far on", x.checks(2, 0), 1 | 1 << 23);
        Due.due("checks(2, 1) of MILES far on", x.checks(2, 1), 198);
    }

    private static void promise19Hours() {
        NeedleLine x = new NeedleLine();
        Due.due("hours()", x.hours(), 96);
        x.mile(0, 1, 9);
        x.mile(1, 2, 17);
        x.mile(2, 3, 1);
        x.mile(12, 1, 9);
        Due.due("hours() with what MILES have", x.hours(), 96 + 9 + 1 + 3);
        x.miles(24);
        Due.due("hours() of 24", x.hours(), 192 + 9 + 1 + 3 + 9);
        Texts.told(x, 1, "i*i");
        Due.due("hours() by a TEXT", x.hours(), 23 * 24 * 47 / 6);
        Texts.told(x, 1, "9999");
        Due.due("hours(), held", x.hours(), 24 * 999);
    }

    private static void promise20Within() {
        NeedleLine x = new NeedleLine();
        x.mile(1, 1, 4);
        int[] hours = {0, 7, 8, 19, 20, 27, 28, 99, 100, 99999};
        int[] due = {0, 0, 1, 1, 2, 2, 3, 11, 12, 12};
        for (int i = 0; i < hours.length; i++) {
            Due.due("within(" + hours[i] + ")", x.within(hours[i]), due[i]);
        }
        Due.due("within(-1)", x.within(-1), BEYOND);
        Due.due("within(100000)", x.within(100000), BEYOND);
        Texts.told(x, 1, "(i>4)*3");
        Due.due("within(0) with HOURS 0", x.within(0), 5);
        Due.due("within(6)", x.within(6), 7);
    }

    private static void promise21Leaning() {
        NeedleLine x = new NeedleLine();
        Due.due("leaning() of none", x.leaning(), 0);
        x.slip(1, 303, -6);
        x.slip(1, 505, 12);
        Due.due("leaning(), of several the least", x.leaning(), 3);
        x.slip(1, 707, 1);
        Due.due("leaning()", x.leaning(), 7);
        x.mile(9, 3, 1);
        x.slip(1, 909, -8);
        Due.due("leaning() behind a CHECK", x.leaning(), 9);
        x.miles(9);
        Due.due("leaning() of a shorter LINE", x.leaning(), 7);
        x.miles(1);
        Due.due("leaning() of one MILE", x.leaning(), 0);
    }

    private static void straight(NeedleLine x, long above, long below) {
        Due.due("straight(0) of " + above + " by " + below, x.straight(0), above);
        Due.due("straight(1) of " + above + " by " + below, x.straight(1), below);
    }

    private static void promise22Straight() {
        straight(new NeedleLine(), 0, 1);
        straight(withSides(4, 8, 12), 4, 1);
        straight(withSides(1, 0, 0), 1, 14);
        straight(withSides(-2, 1, 0), 0, 1);
        straight(withSides(-2, -3, -4), -10, 7);
        straight(withSides(7), 7, 1);
        NeedleLine x = new NeedleLine();
        x.miles(24);
        for (int i = 0; i < 8; i++) {
            x.slip(4, 23, 99);
        }
        long above = 0;
        long below = 0;
        for (int i = 1; i <= 24; i++) {
            above += i * (792L * i * (i + 1) / 2);
            below += i * i;
        }
        Due.due("straight by straight, crosswise", x.straight(0) * below, above * x.straight(1));
        Due.due("straight(1) of the steepest", x.straight(1), 49);
        Due.due("straight(2)", x.straight(2), -1000000001L);
        Due.due("straight(-1)", x.straight(-1), -1000000001L);
        Due.due("told(1)", x.told(1), 2);
    }

    private static void promise23OffIt() {
        Due.due("offIt() of none", new NeedleLine().offIt(), 1);
        Due.due("offIt()", withSides(0, 0, 30, 0).offIt(), 3);
        Due.due("offIt() to the left", withSides(0, -40, 0, 0).offIt(), 2);
        Due.due("offIt() of the last", withSides(0, 0, 0, 70).offIt(), 4);
        Due.due("offIt(), of several the least", withSides(0, 0, 0, 0).offIt(), 1);
        Due.due("offIt() of one", withSides(9).offIt(), 1);
        Due.due("offIt() of a slope", withSides(10, 20, 33, 40, 50).offIt(), 3);
        Due.due("offIt() of a slope to the left", withSides(-10, -20, -30, -36, -50).offIt(), 4);
        Due.due("offIt() by a part of a yard", withSides(3, 1).offIt(), 1);
    }

    private static void promise24Nearest() {
        NeedleLine x = withSides(10, -10, 50);
        Due.due("nearest(0, 0)", x.nearest(0, 0), 0);
        Due.due("nearest(0, 1760)", x.nearest(0, 1760), 1);
        Due.due("nearest(0, 2640), of several the least", x.nearest(0, 2640), 1);
        Due.due("nearest(0, 2641)", x.nearest(0, 2641), 2);
        Due.due("nearest(-1, 2640): SIDES count", x.nearest(-1, 2640), 2);
        Due.due("nearest(-99999, 0)", x.nearest(-99999, 0), 0);
        Due.due("nearest(99999, 99999)", x.nearest(99999, 99999), 3);
        Due.due("nearest(100000, 0)", x.nearest(100000, 0), BEYOND);
        Due.due("nearest(-100000, 0)", x.nearest(-100000, 0), BEYOND);
        Due.due("nearest(0, 100000)", x.nearest(0, 100000), BEYOND);
        Due.due("nearest(0, -1)", x.nearest(0, -1), BEYOND);
    }

    private static void promise25Crosses() {
        Due.due("crosses() of none", new NeedleLine().crosses(), 0);
        Due.due("crosses() from 0", withSides(5, 6).crosses(), 0);
        Due.due("crosses() once", withSides(5, -6).crosses(), 1);
        Due.due("crosses() back", withSides(5, -6, 7).crosses(), 2);
        Due.due("crosses() by way of 0", withSides(5, 0, -7, -7, 1).crosses(), 1);
        Due.due("crosses() to 0 from the left", withSides(-5, 0).crosses(), 0);
        Due.due("crosses() to 0 from the right", withSides(5, 0).crosses(), 0);
        Due.due("crosses() by yards", withSides(1, -1, 1).crosses(), 2);
        NeedleLine x = withSides(5, -6, 7);
        x.miles(2);
        Due.due("crosses() of a shorter LINE", x.crosses(), 1);
    }
}
