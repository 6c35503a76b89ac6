/** Promises 1 to 10. */
public final class MilesAndSlipsTest {
    private static final int BEYOND = -1000000001;
    private static final int FULL = -1000000004;
    private static final int KIND = -1000000005;

    public static void main(String[] args) {
        promise1NewObject();
        promise2Miles();
        promise3Mile();
        promise4MileIs();
        promise4OnlySlipsThatAreOn();
        promise5Stone();
        promise6Slip();
        promise7SlipIs();
        promise8As();
        promise9Turn();
        promise10Does();
        Due.end();
    }

    private static void promise1NewObject() {
        NeedleLine x = new NeedleLine();
        int[] counts = {12, 0, 0, 0, 0, 0, 0, 1};
        for (int what = 0; what < counts.length; what++) {
            Due.due("new: count(" + what + ")", x.count(what), counts[what]);
        }
        for (int k = 1; k <= 6; k++) {
            Due.due("new: told(" + k + ")", x.told(k), 0);
        }
        Due.due("new: miss(0)", x.miss(0), 0);
        Due.due("new: miss(1)", x.miss(1), 0);
        for (int mile = 0; mile < 12; mile++) {
            for (int what = 0; what <= 8; what++) {
                Due.due("new: mileIs(" + mile + ", " + what + ")", x.mileIs(mile, what), what == 5 ? 8 : 0);
            }
        }
        for (int sheet = 0; sheet < 4; sheet++) {
            Due.due("new: put(" + sheet + ", 0, 0)", x.put(sheet, 0, 0), -1000000002);
        }
        Due.due("new: restore()", x.restore(), -1000000002);
        Due.due("new: untell(0)", x.untell(0), 0);
        Due.due("new: untell(1)", x.untell(1), 0);
        Due.due("new: slipIs(0, 0)", x.slipIs(0, 0), BEYOND);
        Due.due("new: treeIs(0, 0)", x.treeIs(0, 0), BEYOND);
    }

    private static void promise2Miles() {
        NeedleLine x = new NeedleLine();
        Due.due("miles(0)", x.miles(0), BEYOND);
        Due.due("miles(25)", x.miles(25), BEYOND);
        Due.due("miles(MIN)", x.miles(Integer.MIN_VALUE), BEYOND);
        Due.due("miles(24)", x.miles(24), 12);
        Due.due("post(24, 1)", x.post(24, 1), 24 * 1760);
        x.mile(20, 0, 7);
        Due.due("miles(1)", x.miles(1), 24);
        Due.due("post(2, 1)", x.post(2, 1), BEYOND);
        Due.due("miles(24) again", x.miles(24), 1);
        Due.due("what MILES have stays", x.mileIs(20, 0), 7);
        Due.due("post(24, 0)", x.post(24, 0), 7);
    }

    private static void promise3Mile() {
        NeedleLine x = new NeedleLine();
        int[] least = {-99, 0, 0, 0};
        int[] most = {99, 9, 99, 1};
        for (int what = 0; what < 4; what++) {
            Due.due("mile(5, " + what + ", most)", x.mile(5, what, most[what]), 0);
            Due.due("mile(5, " + what + ", least)", x.mile(5, what, least[what]), most[what]);
            Due.due("mile(5, " + what + ", most + 1)", x.mile(5, what, most[what] + 1), BEYOND);
            Due.due("mile(5, " + what + ", least - 1)", x.mile(5, what, least[what] - 1), BEYOND);
            Due.due("mileIs(5, " + what + ")", x.mileIs(5, what), least[what]);
        }
        Due.due("mile(23, 1, 4)", x.mile(23, 1, 4), 0);
        Due.due("mile(23, 1, 0)", x.mile(23, 1, 0), 4);
        Due.due("mile(24, 1, 4)", x.mile(24, 1, 4), BEYOND);
        Due.due("mile(-1, 1, 4)", x.mile(-1, 1, 4), BEYOND);
        Due.due("mile(0, 4, 0)", x.mile(0, 4, 0), BEYOND);
        Due.due("mile(0, -1, 0)", x.mile(0, -1, 0), BEYOND);
    }

    private static void promise4MileIs() {
        NeedleLine x = new NeedleLine();
        x.mile(0, 0, -3);
        x.mile(1, 0, 4);
        x.mile(1, 1, 9);
        x.mile(1, 2, 99);
        x.mile(1, 3, 1);
        x.slip(4, 2, 6);
        x.slip(1, 102, -1);
        x.slip(5, 1, 10);
        x.slip(6, 103, -7);
        x.slip(3, 101, 2);
        int[] due = {4, 9, 99, 1, 0, 8 + 9 + 11 + 3, 5, 10 - 3, 20 + 66 - 14};
        for (int what = 0; what < due.length; what++) {
            Due.due("mileIs(1, " + what + ")", x.mileIs(1, what), due[what]);
        }
        Due.due("mileIs(0, 6)", x.mileIs(0, 6), 6);
        Due.due("mileIs(2, 6)", x.mileIs(2, 6), 11);
        Due.due("mileIs(3, 6): the heading goes on", x.mileIs(3, 6), 11);
        Due.due("mileIs(3, 7): no swamp", x.mileIs(3, 7), 0);
        Due.due("mileIs(3, 8)", x.mileIs(3, 8), -14);
        Due.due("post(2, 0)", x.post(2, 0), -3 + 6 + 4 + 5 + 7);
        Due.due("post(2, 1)", x.post(2, 1), 2 * 1760 - 27 - 72);
        Due.due("mileIs(1, 9)", x.mileIs(1, 9), BEYOND);
        Due.due("mileIs(1, -1)", x.mileIs(1, -1), BEYOND);
        Due.due("mileIs(12, 0)", x.mileIs(12, 0), BEYOND);
        Due.due("mileIs(-1, 0)", x.mileIs(-1, 0), BEYOND);
        Due.due("mileIs(11, 0)", x.mileIs(11, 0), 0);
    }

    private static void promise4OnlySlipsThatAreOn() {
        NeedleLine x = new NeedleLine();
        x.mile(0, 2, 1);
        int[] kinds = {4, 5, 2};
        for (int i = 0; i < kinds.length; i++) {
            x.slip(kinds[i], 0, 9);
            Due.due("on: mileIs(0, " + (6 + i) + ")", x.mileIs(0, 6 + i), 9);
            x.turn(i, 0);
            Due.due("off: mileIs(0, " + (6 + i) + ")", x.mileIs(0, 6 + i), 0);
        }
        Due.due("post(1, 0) of all off", x.post(1, 0), 0);
        Due.due("post(1, 1) of all off", x.post(1, 1), 1760);
    }

    private static void promise5Stone() {
        NeedleLine x = new NeedleLine();
        Due.due("stone(-9999, 0)", x.stone(-9999, 0), 1);
        Due.due("miss(0)", x.miss(0), 9999);
        Due.due("miss(1)", x.miss(1), 21120);
        Due.due("stone(9999, 99999)", x.stone(9999, 99999), 1);
        Due.due("stone(10000, 0)", x.stone(10000, 0), BEYOND);
        Due.due("stone(-10000, 0)", x.stone(-10000, 0), BEYOND);
        Due.due("stone(0, 100000)", x.stone(0, 100000), BEYOND);
        Due.due("stone(0, -1)", x.stone(0, -1), BEYOND);
        Due.due("miss(0) after errors", x.miss(0), -9999);
        Due.due("miss(1) after errors", x.miss(1), 21120 - 99999);
    }

    private static void promise6Slip() {
        NeedleLine x = new NeedleLine();
        Due.due("slip(-1, 0, 0)", x.slip(-1, 0, 0), BEYOND);
        Due.due("slip(7, 0, 0)", x.slip(7, 0, 0), BEYOND);
        Due.due("slip(1, 2324, 0)", x.slip(1, 2324, 0), BEYOND);
        Due.due("slip(1, 2424, 0)", x.slip(1, 2424, 0), BEYOND);
        Due.due("slip(1, 504, 0)", x.slip(1, 504, 0), BEYOND);
        Due.due("slip(1, -1, 0)", x.slip(1, -1, 0), BEYOND);
        Due.due("slip(1, -100, 0)", x.slip(1, -100, 0), BEYOND);
        Due.due("slip(1, MIN, 0)", x.slip(1, Integer.MIN_VALUE, 0), BEYOND);
        Due.due("slip(1, MAX, 0)", x.slip(1, Integer.MAX_VALUE, 0), BEYOND);
        Due.due("slip(1, 0, 100)", x.slip(1, 0, 100), BEYOND);
        Due.due("slip(1, 0, -100)", x.slip(1, 0, -100), BEYOND);
        int[] kinds = {0, 1, 2, 3, 4, 5, 6, 0};
        for (int i = 0; i < kinds.length; i++) {
            Due.due("slip " + i, x.slip(kinds[i], i == 7 ? 2323 : 404 + i, i == 0 ? -99 : 99), i);
        }
        Due.due("slip(0, 0, 0) of nine", x.slip(0, 0, 0), FULL);
        Due.due("slip(7, 0, 0) of nine: BEYOND is asked first", x.slip(7, 0, 0), BEYOND);
        Due.due("count(1)", x.count(1), 8);
    }

    private static void promise7SlipIs() {
        NeedleLine x = new NeedleLine();
        x.slip(6, 723, -45);
        x.slip(2, 0, 3);
        int[] first = {6, 7, 23, -45, 1};
        int[] second = {2, 0, 0, 3, 1};
        for (int what = 0; what < 5; what++) {
            Due.due("slipIs(0, " + what + ")", x.slipIs(0, what), first[what]);
            Due.due("slipIs(1, " + what + ")", x.slipIs(1, what), second[what]);
        }
        x.slip(1, 2323, 0);
        Due.due("slipIs(2, 1) of the last MILE", x.slipIs(2, 1), 23);
        Due.due("slipIs(2, 2) of the last MILE", x.slipIs(2, 2), 23);
        Due.due("slipIs(0, 5)", x.slipIs(0, 5), BEYOND);
        Due.due("slipIs(0, -1)", x.slipIs(0, -1), BEYOND);
        Due.due("slipIs(3, 0)", x.slipIs(3, 0), BEYOND);
        Due.due("slipIs(-1, 0)", x.slipIs(-1, 0), BEYOND);
    }

    private static void promise8As() {
        NeedleLine x = new NeedleLine();
        boolean[][] is = {
            {true, false, false, false, false, false, false},
            {true, true, false, false, false, false, false},
            {true, false, true, false, false, false, false},
            {true, false, true, true, false, false, false},
            {true, true, false, false, true, false, false},
            {true, false, false, false, false, true, false},
            {true, false, false, false, false, true, true}
        };
        for (int kind = 0; kind < 7; kind++) {
            x.slip(kind, 0, 10 + kind);
            for (int as = 0; as < 7; as++) {
                Due.due("as(" + kind + ", " + as + ")", x.as(kind, as), is[kind][as] ? 10 + kind : KIND);
            }
        }
        Due.due("as(0, 7)", x.as(0, 7), BEYOND);
        Due.due("as(0, -1)", x.as(0, -1), BEYOND);
        Due.due("as(7, 0)", x.as(7, 0), BEYOND);
        Due.due("as(-1, 0)", x.as(-1, 0), BEYOND);
    }

    private static void promise9Turn() {
        NeedleLine x = new NeedleLine();
        x.slip(4, 11, 2);
        Due.due("miss(0)", x.miss(0), 2 * 78);
        Due.due("turn(0, 0)", x.turn(0, 0), 1);
        Due.due("miss(0) off", x.miss(0), 0);
        Due.due("slipIs(0, 4) off", x.slipIs(0, 4), 0);
        Due.due("turn(0, 0) again", x.turn(0, 0), 0);
        Due.due("turn(0, 2)", x.turn(0, 2), BEYOND);
        Due.due("turn(0, -1)", x.turn(0, -1), BEYOND);
        Due.due("turn(1, 1)", x.turn(1, 1), BEYOND);
        Due.due("turn(-1, 1)", x.turn(-1, 1), BEYOND);
        Due.due("turn(0, 1)", x.turn(0, 1), 0);
        Due.due("miss(0) on", x.miss(0), 2 * 78);
    }

    private static void promise10Does() {
        NeedleLine x = new NeedleLine();
        for (int kind = 0; kind < 7; kind++) {
            x.slip(kind, 406, -5);
        }
        x.mile(4, 2, 1);
        x.mile(5, 1, 9);
        x.mile(6, 1, 2);
        x.mile(6, 2, 50);
        int[][][] due = {
            {{0, 0, 0}, {0, 0, 0}, {0, 0, 0}},
            {{-5, 0, 0}, {0, 0, 0}, {0, 0, 0}},
            {{0, 0, -5}, {0, 0, -50}, {0, 0, -15}},
            {{0, 0, 61}, {0, 0, -50}, {0, 0, -15}},
            {{-5, 0, 0}, {-5, 0, 0}, {-5, 0, 0}},
            {{0, -5, 0}, {0, 0, 0}, {0, -5, 0}},
            {{0, -2, -10}, {0, 0, -10}, {0, -2, -10}}
        };
        for (int slip = 0; slip < 7; slip++) {
            for (int what = 0; what < 3; what++) {
                for (int mile = 4; mile <= 6; mile++) {
                    Due.due("does(" + slip + ", " + mile + ", " + what + ")",
                            x.does(slip, mile, what), due[slip][mile - 4][what]);
                }
                Due.due("does(" + slip + ", 3, " + what + ")", x.does(slip, 3, what), 0);
                Due.due("does(" + slip + ", 7, " + what + ")", x.does(slip, 7, what), 0);
            }
        }
        x.turn(4, 0);
        Due.due("does of one that is off", x.does(4, 5, 0), -5);
        x.miles(1);
        Due.due("does beyond THE LINE", x.does(4, 5, 0), -5);
        Due.due("does(4, 23, 0)", x.does(4, 23, 0), 0);
        x.slip(4, 23, 8);
        Due.due("does(7, 0, 0)", x.does(7, 0, 0), 8);
        Due.due("does(7, 23, 0)", x.does(7, 23, 0), 8);
        Due.due("does(4, 24, 0)", x.does(4, 24, 0), BEYOND);
        Due.due("does(4, -1, 0)", x.does(4, -1, 0), BEYOND);
        Due.due("does(4, 0, 3)", x.does(4, 0, 3), BEYOND);
        Due.due("does(4, 0, -1)", x.does(4, 0, -1), BEYOND);
        Due.due("does(8, 0, 0)", x.does(8, 0, 0), BEYOND);
        Due.due("does(-1, 0, 0)", x.does(-1, 0, 0), BEYOND);
    }
}
