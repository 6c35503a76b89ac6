/** Promises 35 to 39. */
public final class SheetsTest {
    private static final int BEYOND = -1000000001;
    private static final int NONE = -1000000002;
    private static final int STATE = -1000000003;
    private static final int KIND = -1000000005;

    public static void main(String[] args) {
        promise35Sheet();
        promise35Missing();
        promise36Put();
        promise36LowestBits();
        promise37Move();
        promise37MoveWithin();
        promise37Errors();
        promise38Judge();
        promise39Even();
        promise39MadeUp();
        Due.end();
    }

    private static NeedleLine with(int bits, int... numbers) {
        NeedleLine x = new NeedleLine();
        x.sheet(0, bits, numbers.length);
        for (int i = 0; i < numbers.length; i++) {
            x.put(0, i, numbers[i]);
        }
        return x;
    }

    /** Whether a SHEET has these numbers, no two side by side over 99 apart: the LINE is laid by them. */
    private static boolean holds(NeedleLine x, int sheet, int... numbers) {
        x.miles(numbers.length);
        int ahead = 0;
        for (int i = 0; i < numbers.length; i++) {
            x.mile(i, 0, numbers[i] - ahead);
            ahead = numbers[i];
        }
        return x.judge(sheet, 0) == 0;
    }

    private static void promise35Sheet() {
        NeedleLine x = new NeedleLine();
        int[] bits = {8, 16, 32};
        for (int i = 0; i < 3; i++) {
            Due.due("sheet(" + i + ", bits, 24)", x.sheet(i, bits[i], 24), 1);
            Due.due("put of the last", x.put(i, 23, 1), 1);
            Due.due("put beyond", x.put(i, 24, 1), BEYOND);
        }
        Due.due("sheet(3, 8, 0)", x.sheet(3, 8, 0), 1);
        Due.due("put into none", x.put(3, 0, 1), BEYOND);
        Due.due("judge of none", x.judge(3, 0), 0);
        Due.due("even of none", x.even(3, 0), 0);
        Due.due("sheet(4, 8, 1)", x.sheet(4, 8, 1), BEYOND);
        Due.due("sheet(-1, 8, 1)", x.sheet(-1, 8, 1), BEYOND);
        Due.due("sheet(0, 8, 25)", x.sheet(0, 8, 25), BEYOND);
        for (int wrong : new int[] {-8, 1, 7, 24, 64}) {
            Due.due("sheet(0, " + wrong + ", 1)", x.sheet(0, wrong, 1), BEYOND);
            Due.due("sheet(0, " + wrong + ", -1)", x.sheet(0, wrong, -1), BEYOND);
        }
        Due.due("sheet(0, 8, -1)", x.sheet(0, 8, -1), STATE);
        Due.due("sheet(4, 8, -1)", x.sheet(4, 8, -1), BEYOND);
        Due.due("the SHEET stays", x.judge(0, 0), 13);
        x.sheet(0, 8, 12);
        Due.due("all are 0 anew", x.judge(0, 0), 0);
        x.sheet(0, 8, 3);
        x.put(0, 0, 9);
        x.put(0, 2, 9);
        x.sheet(0, 8, 3);
        Due.isTrue("all are 0 in a row that was there", holds(x, 0, 0, 0, 0));
    }

    private static void promise35Missing() {
        NeedleLine x = with(8, 1, 2);
        Due.due("sheet(0, 0, -1)", x.sheet(0, 0, -1), 1);
        Due.due("put", x.put(0, 0, 1), NONE);
        Due.due("judge", x.judge(0, 0), NONE);
        Due.due("sheet(1, 0, 99)", x.sheet(1, 0, 99), 1);
        Due.due("sheet(4, 0, 1)", x.sheet(4, 0, 1), BEYOND);
        Due.due("told(3)", x.told(3), 0);
    }

    private static void promise36Put() {
        NeedleLine x = with(16, 0, 0, 0);
        Due.due("put(0, 1, 7)", x.put(0, 1, 7), 1);
        Due.isTrue("0 7 0", holds(x, 0, 0, 7, 0));
        Due.due("put(0, 3, 7)", x.put(0, 3, 7), BEYOND);
        Due.due("put(0, -1, 7)", x.put(0, -1, 7), BEYOND);
        Due.due("put(0, MAX, 7)", x.put(0, Integer.MAX_VALUE, 7), BEYOND);
        Due.due("put(0, MIN, 7)", x.put(0, Integer.MIN_VALUE, 7), BEYOND);
        Due.due("put(1, -1, 7): NONE is asked first", x.put(1, -1, 7), NONE);
        Due.due("put(4, 0, 7)", x.put(4, 0, 7), BEYOND);
        Due.due("put(-1, 0, 7)", x.put(-1, 0, 7), BEYOND);
        Due.isTrue("0 7 0 still", holds(x, 0, 0, 7, 0));
    }

    private static void promise36LowestBits() {
        Due.isTrue("8 bits kept", holds(with(8, 256 + 5, 255, -300, 4096 + 17), 0, 5, -1, -44, 17));
        Due.isTrue("16 bits kept", holds(with(16, 65536 + 5, 65535, -65536 - 44, 1 << 20), 0, 5, -1, -44, 0));
        Due.isTrue("32 bits kept", holds(with(32, 5, -1, -44, 50), 0, 5, -1, -44, 50));
        NeedleLine x = with(32, 1 << 20);
        Due.due("judge of a great number", x.judge(0, 9999), 1);
        x = with(8, 128, 0);
        Due.due("8 bits: 128 is below 0", x.judge(0, 128), 0);
        Due.due("8 bits: 128 is -128", x.judge(0, 127), 1);
    }

    private static void promise37Move() {
        NeedleLine x = with(8, 1, 2, 3, 4, 5);
        x.sheet(1, 8, 7);
        Due.due("move(0, 1, 1, 3, 3)", x.move(0, 1, 1, 3, 3), 3);
        Due.isTrue("they came", holds(x, 1, 0, 0, 0, 2, 3, 4, 0));
        Due.isTrue("they stay", holds(x, 0, 1, 2, 3, 4, 5));
        Due.due("move(0, 0, 1, 2, 5)", x.move(0, 0, 1, 2, 5), 5);
        Due.isTrue("all came", holds(x, 1, 0, 0, 1, 2, 3, 4, 5));
        Due.due("move of none, at the ends", x.move(0, 5, 1, 7, 0), 0);
        Due.isTrue("none came", holds(x, 1, 0, 0, 1, 2, 3, 4, 5));
    }

    private static void promise37MoveWithin() {
        NeedleLine x = with(32, 1, 2, 3, 4, 5);
        Due.due("move on", x.move(0, 0, 0, 1, 4), 4);
        Due.isTrue("1 1 2 3 4", holds(x, 0, 1, 1, 2, 3, 4));
        Due.due("move back", x.move(0, 2, 0, 0, 3), 3);
        Due.isTrue("2 3 4 3 4", holds(x, 0, 2, 3, 4, 3, 4));
    }

    private static void promise37Errors() {
        NeedleLine x = with(8, 1, 2, 3);
        x.sheet(1, 8, 2);
        x.sheet(2, 16, 3);
        Due.due("move(4, 0, 0, 0, 1)", x.move(4, 0, 0, 0, 1), BEYOND);
        Due.due("move(0, 0, -1, 0, 1)", x.move(0, 0, -1, 0, 1), BEYOND);
        Due.due("move(3, 0, 4, 0, 1): BEYOND is asked first", x.move(3, 0, 4, 0, 1), BEYOND);
        Due.due("move(3, 0, 0, 0, -1): NONE is asked ahead of n", x.move(3, 0, 0, 0, -1), NONE);
        Due.due("move(0, 0, 3, 0, 1)", x.move(0, 0, 3, 0, 1), NONE);
        Due.due("move(0, 0, 2, 0, -1): KIND is asked ahead of n", x.move(0, 0, 2, 0, -1), KIND);
        int[][] wrong = {
            {0, 0, -1}, {-1, 0, 1}, {0, -1, 1}, {0, 0, 3}, {1, 0, 3}, {2, 1, 2}, {4, 0, 0}, {0, 3, 0},
            {1, 0, Integer.MAX_VALUE}, {Integer.MAX_VALUE, 0, 1}, {0, Integer.MAX_VALUE, 1},
            {Integer.MIN_VALUE, 0, 1}, {0, 0, Integer.MIN_VALUE}, {3, 2, 1}, {2, 2, 1}
        };
        for (int[] w : wrong) {
            Due.due("move(0, " + w[0] + ", 1, " + w[1] + ", " + w[2] + ")", x.move(0, w[0], 1, w[1], w[2]), BEYOND);
        }
        Due.isTrue("nothing came", holds(x, 1, 0, 0));
        Due.due("told(5)", x.told(5), 1);
        Due.due("told(2)", x.told(2), 2);
    }

    private static void promise38Judge() {
        NeedleLine x = with(32, 10, 20, 34, 40);
        x.miles(4);
        for (int mile = 0; mile < 4; mile++) {
            x.mile(mile, 0, 10);
        }
        Due.due("judge(0, 3)", x.judge(0, 3), 3);
        Due.due("judge(0, 4)", x.judge(0, 4), 0);
        x.put(0, 0, 5);
        Due.due("judge(0, 4) of a lower one", x.judge(0, 4), 1);
        Due.due("judge(0, 5) of a lower one", x.judge(0, 5), 0);
        x.put(0, 3, Integer.MIN_VALUE);
        Due.due("judge of the least int", x.judge(0, 9999), 4);
        x.mile(0, 0, -90);
        x.put(0, 0, -90);
        x.put(0, 1, -80);
        x.put(0, 2, -70);
        x.put(0, 3, Integer.MAX_VALUE - 10);
        Due.due("judge of about the greatest int", x.judge(0, 9999), 4);
        x.miles(2);
        Due.due("judge beyond THE LINE", x.judge(0, 9999), 3);
        x.miles(24);
        x.sheet(0, 8, 2);
        x.put(0, 0, -90);
        x.put(0, 1, -80);
        Due.due("judge of fewer than POSTS", x.judge(0, 0), 0);
        Due.due("judge(0, -1)", x.judge(0, -1), BEYOND);
        Due.due("judge(0, 10000)", x.judge(0, 10000), BEYOND);
        Due.due("judge(4, 0)", x.judge(4, 0), BEYOND);
        Due.due("judge(-1, 0)", x.judge(-1, 0), BEYOND);
        Due.due("judge(1, 0)", x.judge(1, 0), NONE);
        Due.due("judge(1, -1): BEYOND is asked first", x.judge(1, -1), BEYOND);
    }

    private static void even(NeedleLine x, int many, int madeUp) {
        Due.due("even(0, 0)", x.even(0, 0), many);
        Due.due("even(0, 1)", x.even(0, 1), madeUp);
    }

    private static void promise39Even() {
        even(with(8), 0, 0);
        even(with(8, 3), 0, 0);
        even(with(8, 3, 6), 1, 0);
        even(with(8, 0, 0), 1, 0);
        even(with(8, 3, 7, 11, 15, 20), 2, 0);
        even(with(8, 100, -56), 0, 0);
        even(with(16, 100, 200, 300, 400), 3, 1);
        even(with(32, Integer.MAX_VALUE, -2, Integer.MAX_VALUE - 2, -4), 3, 1);
        NeedleLine x = with(8, 1);
        Due.due("even(0, 2)", x.even(0, 2), BEYOND);
        Due.due("even(0, -1)", x.even(0, -1), BEYOND);
        Due.due("even(4, 0)", x.even(4, 0), BEYOND);
        Due.due("even(1, 0)", x.even(1, 0), NONE);
        Due.due("even(1, 2): BEYOND is asked first", x.even(1, 2), BEYOND);
    }

    private static void promise39MadeUp() {
        even(with(8, 5, 10, 15, 20), 3, 1);
        even(with(8, 5, 10, 15), 2, 0);
        even(with(8, 5, 10, 15, 16, 17, 18), 4, 0);
        even(with(8, 5, 10, 15, 16, 17, 18, 19), 5, 1);
        even(with(8, 5, 10, 15, 20, 21, 21), 3, 1);
        even(with(8, 9, 8, 7, 6, 5), 3, 1);
    }
}
