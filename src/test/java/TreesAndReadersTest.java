/** Promises 26 to 32. */
public final class TreesAndReadersTest {
    private static final int BEYOND = -1000000001;
    private static final int NONE = -1000000002;
    private static final int FULL = -1000000004;

    public static void main(String[] args) {
        promise26Tree();
        promise27TreeIs();
        promise28Dig();
        promise29Sorts();
        promise30Waver();
        promise30WaverBeyond();
        promise31Still();
        promise32Seed();
        Due.end();
    }

    private static void promise26Tree() {
        NeedleLine x = new NeedleLine();
        int[][] wrong = {
            {0, 0, 100100}, {25, 0, 100100}, {-1, 0, 100100}, {1, -1, 100100}, {1, 6, 100100},
            {1, 0, 0}, {1, 0, 1000}, {1, 0, 1200}, {1, 0, 999}, {1, 0, 1}, {1, 0, 199200}, {1, 0, 200001},
            {1, 0, -1}, {1, 0, -100100}, {1, 0, Integer.MAX_VALUE}, {1, 0, Integer.MIN_VALUE}
        };
        for (int[] w : wrong) {
            Due.due("tree(" + w[0] + ", " + w[1] + ", " + w[2] + ")", x.tree(w[0], w[1], w[2]), BEYOND);
        }
        for (int i = 0; i < 16; i++) {
            Due.due("tree " + i, x.tree(i == 0 ? 24 : i, i % 6, i % 2 == 0 ? 1001 : 199199), i);
        }
        Due.due("tree of seventeen", x.tree(1, 0, 100100), FULL);
        Due.due("tree of seventeen: BEYOND is asked first", x.tree(0, 0, 100100), BEYOND);
        Due.due("count(2)", x.count(2), 16);
    }

    private static void promise27TreeIs() {
        NeedleLine x = new NeedleLine();
        x.mile(0, 0, 30);
        x.mile(3, 0, -50);
        x.mile(0, 1, 1);
        x.tree(5, 3, 1199);
        x.tree(12, 0, 199001);
        x.tree(13, 1, 100100);
        int[] first = {5, 3, -99, 99, -20 - 99, 5 * 1760 - 3 + 99};
        int[] second = {12, 0, 99, -99, -20 + 99, 12 * 1760 - 3 - 99};
        int[] third = {13, 1, 0, 0, NONE, NONE};
        for (int what = 0; what < 6; what++) {
            Due.due("treeIs(0, " + what + ")", x.treeIs(0, what), first[what]);
            Due.due("treeIs(1, " + what + ")", x.treeIs(1, what), second[what]);
            Due.due("treeIs(2, " + what + ")", x.treeIs(2, what), third[what]);
        }
        Due.due("treeIs(2, 6): BEYOND is asked first", x.treeIs(2, 6), BEYOND);
        Due.due("treeIs(0, -1)", x.treeIs(0, -1), BEYOND);
        Due.due("treeIs(3, 0)", x.treeIs(3, 0), BEYOND);
        Due.due("treeIs(-1, 0)", x.treeIs(-1, 0), BEYOND);
        x.miles(13);
        Due.due("treeIs(2, 5) of a longer LINE", x.treeIs(2, 5), 13 * 1760 - 3);
    }

    private static void promise28Dig() {
        NeedleLine x = new NeedleLine();
        x.tree(24, 0, 142063);
        Due.due("dig(0, 50, 20, 0)", x.dig(0, 50, 20, 0), 8);
        Due.due("dig(0, 50, 20, 1)", x.dig(0, 50, 20, 1), 57);
        Due.due("dig of any SIDE", x.dig(0, Integer.MIN_VALUE, 0, 0), Integer.MAX_VALUE - 41);
        Due.due("dig of any ALONG", x.dig(0, 0, Integer.MAX_VALUE, 1), Integer.MIN_VALUE + 36);
        Due.due("dig(0, 0, 0, 2)", x.dig(0, 0, 0, 2), BEYOND);
        Due.due("dig(0, 0, 0, -1)", x.dig(0, 0, 0, -1), BEYOND);
        Due.due("dig(1, 0, 0, 0)", x.dig(1, 0, 0, 0), BEYOND);
        Due.due("dig(-1, 0, 0, 0)", x.dig(-1, 0, 0, 0), BEYOND);
        Due.due("told(1)", x.told(1), 4);
        Due.due("a DIG of about an ERROR's number", x.dig(0, -1000000001, 0, 0), -1000000043);
        Due.due("is none", x.told(1), 4);
    }

    private static void promise29Sorts() {
        NeedleLine x = new NeedleLine();
        int[] sorts = {5, 0, 5, 3, 5, 0};
        for (int sort : sorts) {
            x.tree(24, sort, 100100);
        }
        int[] due = {2, 0, 0, 1, 0, 3};
        for (int sort = 0; sort < 6; sort++) {
            Due.due("sorts(" + sort + ")", x.sorts(sort), due[sort]);
        }
        Due.due("sorts(6)", x.sorts(6), BEYOND);
        Due.due("sorts(-1)", x.sorts(-1), BEYOND);
    }

    private static void promise30Waver() {
        NeedleLine x = new NeedleLine();
        x.mile(11, 0, 5);
        int z = 1;
        int sum = 0;
        int[] wavers = new int[4];
        for (int i = 0; i < 4; i++) {
            z = z * 1103515245 + 12345;
            wavers[i] = (z >>> 8) % 7 - 3;
            sum += wavers[i];
        }
        x.stone(2, 0);
        Due.due("waver(3, 4, 3)", x.waver(3, 4, 3), sum + 5 - 2);
        for (int i = 0; i < 4; i++) {
            Due.due("mileIs(" + (3 + i) + ", 4)", x.mileIs(3 + i, 4), wavers[i]);
        }
        Due.due("mileIs(2, 4)", x.mileIs(2, 4), 0);
        Due.due("mileIs(7, 4)", x.mileIs(7, 4), 0);
        Due.due("count(7)", x.count(7), z);
        z = z * 1103515245 + 12345;
        int anew = (z >>> 8) % 199 - 99;
        Due.due("waver(4, 1, 99), in place of one", x.waver(4, 1, 99), sum - wavers[1] + anew + 5 - 2);
        Due.due("waver(4, 1, 0)", x.waver(4, 1, 0), sum - wavers[1] + 5 - 2);
        Due.due("mileIs(4, 4) by 0", x.mileIs(4, 4), 0);
        Due.due("waver by 0 draws, too", x.count(7), z * 1103515245 + 12345);
    }

    private static void promise30WaverBeyond() {
        NeedleLine x = new NeedleLine();
        int[][] wrong = {{-1, 1, 1}, {24, 1, 1}, {0, 0, 1}, {0, 25, 1}, {0, 1, -1}, {0, 1, 100}, {0, -5, 1}};
        for (int[] w : wrong) {
            Due.due("waver(" + w[0] + ", " + w[1] + ", " + w[2] + ")", x.waver(w[0], w[1], w[2]), BEYOND);
        }
        Due.due("count(7) after errors", x.count(7), 1);
        int z = 1 * 1103515245 + 12345;
        Due.due("waver(23, 24, 50): one draw", x.waver(23, 24, 50), 0);
        Due.due("count(7)", x.count(7), z);
        x.miles(24);
        Due.due("mileIs(23, 4)", x.mileIs(23, 4), (z >>> 8) % 101 - 50);
    }

    private static void promise31Still() {
        NeedleLine x = new NeedleLine();
        Due.due("still() of none", x.still(), 0);
        x.seed(77);
        x.waver(0, 24, 1);
        x.miles(24);
        int not = 0;
        for (int mile = 0; mile < 24; mile++) {
            not += x.mileIs(mile, 4) != 0 ? 1 : 0;
        }
        Due.isTrue("some WAVER is 0, most are not", not < 24 && not > 12);
        x.miles(1);
        Due.due("still(), beyond THE LINE, too", x.still(), not);
        Due.due("still() again", x.still(), 0);
        x.miles(24);
        Due.due("miss(0)", x.miss(0), 0);
    }

    private static void promise32Seed() {
        NeedleLine x = new NeedleLine();
        Due.due("seed(-1000000001)", x.seed(-1000000001), 1);
        Due.due("count(7)", x.count(7), -1000000001);
        Due.due("seed(MIN)", x.seed(Integer.MIN_VALUE), -1000000001);
        Due.due("seed(5)", x.seed(5), Integer.MIN_VALUE);
        Due.due("no ERROR was told", x.told(1), 0);
        x.waver(0, 1, 99);
        Due.due("count(7) of a draw", x.count(7), 5 * 1103515245 + 12345);
        Due.due("mileIs(0, 4)", x.mileIs(0, 4), ((5 * 1103515245 + 12345) >>> 8) % 199 - 99);
    }
}
