/** The sentences on TREES and READERS (Terms 3, promises 26 to 32), each with its boundary cases. */
public final class BoundsOfTreesTest {
    private static final long BEYOND = -1000000001;
    private static final long NONE = -1000000002;
    private static final long FULL = -1000000004;

    /** With it none of 24 draws by 99 is 0. */
    private static final int SEED_OF_WAVERS = 2;

    public static void main(String[] args) {
        treesAreSixteen();
        postsSortsAndYardsOfTrees();
        treesStandFromWhereThePostIs();
        waversOfTheRest();
        drawsFromOneAtFirst();
        drawsWrap();
        drawsOfNumbersBelowZero();
        promise26NumbersOfTrees();
        promise26PlacesInOneNumber();
        promise26Full();
        promise27();
        promise27PostBeyondTheLine();
        promise28();
        promise28AnyNumbers();
        promise29();
        promise30Bounds();
        promise30MilesBeyond();
        promise30BeyondTheLine();
        promise30MissInSide();
        promise31();
        promise32();
        Due.end();
    }

    private static void treesAreSixteen() {
        Due.sentence("TREES 0, 1, .. (at most 16) WITNESS a POST");
        NeedleLine x = new NeedleLine();
        for (int tree = 0; tree < 16; tree++) {
            Due.due("tree " + tree, x.tree(12, 5, 100100), tree);
        }
        Due.due("a seventeenth", x.tree(12, 5, 100100), FULL);
        Due.due("count(2)", x.count(2), 16);
        Due.due("all WITNESS", x.post(12, 5), 16);
        Due.due("all of one SORT", x.sorts(5), 16);
    }

    private static void postsSortsAndYardsOfTrees() {
        Due.sentence("WITNESS a POST (1 .. 24, as told): SORT (0 .. 5), SIDE and ALONG by which they stand off it (-99 .. 99 "
                + "both)");
        Twins.bounds("tree(*, 0, 100100)", 1, 24, (x, v) -> x.tree(v, 0, 100100));
        Twins.bounds("tree(1, *, 100100)", 0, 5, (x, v) -> x.tree(1, v, 100100));
        for (int yards : new int[] {-99, 99}) {
            NeedleLine x = new NeedleLine();
            x.tree(1, 0, 1000 * (yards + 100) + 100);
            x.tree(24, 5, 100000 + yards + 100);
            int[] first = {1, 0, yards, 0};
            int[] second = {24, 5, 0, yards};
            for (int what = 0; what < 4; what++) {
                Due.due("treeIs(0, " + what + ")", x.treeIs(0, what), first[what]);
                Due.due("treeIs(1, " + what + ")", x.treeIs(1, what), second[what]);
            }
        }
    }

    private static void treesStandFromWhereThePostIs() {
        Due.sentence("they stand so from where the POST is.");
        NeedleLine x = new NeedleLine();
        x.tree(12, 0, 1199);
        x.stone(-500, 0);
        Texts.told(x, 0, "100");
        Due.due("the POST as MOVED", x.post(12, 2), -500);
        Due.due("SIDE, not as MOVED", x.treeIs(0, 4), -99);
        Due.due("ALONG, not as MOVED", x.treeIs(0, 5), 12 * 1760 + 99);
        x.mile(0, 0, 7);
        x.mile(0, 1, 9);
        Due.due("SIDE with IRON", x.treeIs(0, 4), -92);
        Due.due("ALONG with SLOPE", x.treeIs(0, 5), 12 * 1760 + 99 - 27);
    }

    private static int next(int z) {
        return z * 1103515245 + 12345;
    }

    private static int waverOf(int z, int d) {
        return (z >>> 8) % (2 * d + 1) - d;
    }

    /** A new object whose z is told, and MILE 0 wavers by d: its WAVER. */
    private static int wavered(int z, int d) {
        NeedleLine x = new NeedleLine();
        x.seed(z);
        x.waver(0, 1, d);
        return x.mileIs(0, 4);
    }

    private static void waversOfTheRest() {
        Due.sentence("n MILES from a MILE on get a WAVER each: a draw's rest by (2 d and 1), less d.");
        for (int d : new int[] {0, 1, 99}) {
            boolean isLeast = false;
            boolean isMost = false;
            for (int z = 0; z < 4000; z++) {
                int waver = wavered(z, d);
                Due.due("WAVER by " + d + " with z " + z, waver, waverOf(next(z), d));
                Due.isTrue("WAVER by " + d + " within -d .. d", waver >= -d && waver <= d);
                isLeast |= waver == -d;
                isMost |= waver == d;
            }
            Due.isTrue("a WAVER of -" + d + " and one of " + d + " are drawn", isLeast && isMost);
        }
    }

    private static void drawsFromOneAtFirst() {
        Due.sentence("DRAWS: z is told (1 at first); each makes it z * 1103515245 + 12345 (an int), and gives z >>> 8.");
        NeedleLine x = new NeedleLine();
        Due.due("z at first", x.count(7), 1);
        x.waver(0, 2, 99);
        int first = next(1);
        int second = next(first);
        Due.due("the first draw", x.mileIs(0, 4), waverOf(first, 99));
        Due.due("the second draw", x.mileIs(1, 4), waverOf(second, 99));
        Due.due("z then", x.count(7), second);
        NeedleLine other = new NeedleLine();
        other.seed(1);
        other.waver(0, 2, 99);
        Due.due("1 told is as 1 at first", other.mileIs(1, 4), x.mileIs(1, 4));
    }

    private static void drawsWrap() {
        Due.sentence("each makes it z * 1103515245 + 12345 (an int)");
        for (int z : new int[] {0, -1, 2, Integer.MAX_VALUE, Integer.MIN_VALUE, Integer.MIN_VALUE + 1}) {
            NeedleLine x = new NeedleLine();
            x.seed(z);
            x.waver(0, 1, 1);
            Due.due("z behind " + z, x.count(7), (int) (z * 1103515245L + 12345L));
        }
    }

    private static void drawsOfNumbersBelowZero() {
        Due.sentence("and gives z >>> 8.");
        int below = 0;
        for (int z = 0; z < 64; z++) {
            int drawn = next(z);
            below += drawn < 0 ? 1 : 0;
            long gives = (drawn & 0xFFFFFFFFL) / 256;
            Due.due("WAVER with z " + z, wavered(z, 99), gives % 199 - 99);
        }
        Due.isTrue("some z are below 0, some not", below > 0 && below < 64);
    }

    private static void promise26NumbersOfTrees() {
        Due.sentence("A TREE: its number.");
        NeedleLine x = new NeedleLine();
        Due.due("the first", x.tree(24, 0, 100100), 0);
        Due.due("one that is refused has none", x.tree(25, 0, 100100), BEYOND);
        Due.due("the second", x.tree(1, 0, 100100), 1);
    }

    private static void promise26PlacesInOneNumber() {
        Due.sentence("so: 1000 times (SIDE and 100), and ALONG and 100. BEYOND. FULL.");
        for (int side : new int[] {-99, -1, 0, 99}) {
            for (int along : new int[] {-99, -1, 0, 99}) {
                NeedleLine x = new NeedleLine();
                int so = 1000 * (side + 100) + along + 100;
                Due.due("tree(3, 2, " + so + ")", x.tree(3, 2, so), 0);
                Due.due("SIDE of " + so, x.treeIs(0, 2), side);
                Due.due("ALONG of " + so, x.treeIs(0, 3), along);
            }
        }
        int[] refused = {0, 1, 100, 199, 200, 999, 1000, 1200, 1999, 2000, 100000, 100200, 100999, 199000, 199200, 199999,
            200000, 200001, 200100, 1000100, -1, -100, -1001, -99900, -100100, Integer.MIN_VALUE, Integer.MAX_VALUE};
        for (int so : refused) {
            Twins.refused("tree(3, 2, " + so + ")", BEYOND, x -> x.tree(3, 2, so));
        }
    }

    private static void promise26Full() {
        Due.sentence("and ALONG and 100. BEYOND. FULL.");
        Twins.refused(Rich::fullOfTrees, "tree(24, 5, 199199)", FULL, x -> x.tree(24, 5, 199199));
        NeedleLine x = Rich.fullOfTrees();
        x.restore();
        Due.due("the second, as in the IMAGE", x.tree(1, 0, 100100), 1);
    }

    private static void promise27() {
        Due.sentence("Of a TREE: 0 POST, 1 SORT, 2, 3 SIDE, ALONG by which it stands off, 4, 5 where it stands. BEYOND.");
        Twins.bounds("treeIs(1, *)", 0, 5, (x, v) -> x.treeIs(1, v));
        Twins.bounds("treeIs(*, 0) of six", 0, 5, (x, v) -> x.treeIs(v, 0));
        Twins.bounds(Rich::fullOfTrees, "treeIs(*, 3) of sixteen", 0, 15, (x, v) -> x.treeIs(v, 3));
    }

    private static void promise27PostBeyondTheLine() {
        Due.sentence("NONE: 4, 5 of a POST beyond THE LINE.");
        NeedleLine x = new NeedleLine();
        x.tree(5, 3, 110120);
        x.miles(5);
        Due.due("SIDE at the last POST", x.treeIs(0, 4), 10);
        Due.due("ALONG at the last POST", x.treeIs(0, 5), 5 * 1760 + 20);
        x.miles(4);
        int[] due = {5, 3, 10, 20, (int) NONE, (int) NONE};
        for (int what = 0; what < 6; what++) {
            Due.due("treeIs(0, " + what + ") of a POST right behind the last", x.treeIs(0, what), due[what]);
        }
        Twins.refused("treeIs(4, 4)", NONE, line -> line.treeIs(4, 4));
        Twins.refused("treeIs(5, 5)", NONE, line -> line.treeIs(5, 5));
        x.tree(24, 0, 100100);
        x.miles(24);
        Due.due("ALONG at the last POST there can be", x.treeIs(1, 5), 24 * 1760);
    }

    private static void promise28() {
        Due.sentence("what 0 SIDE, 1 ALONG: the place less what the TREE stands off. BEYOND: TREE, what.");
        Twins.bounds("dig(0, 5, 6, *)", 0, 1, (x, v) -> x.dig(0, 5, 6, v));
        Twins.bounds("dig(*, 5, 6, 0) of six", 0, 5, (x, v) -> x.dig(v, 5, 6, 0));
        Twins.bounds(Rich::fullOfTrees, "dig(*, 5, 6, 1) of sixteen", 0, 15, (x, v) -> x.dig(v, 5, 6, 1));
        NeedleLine x = new NeedleLine();
        x.tree(24, 0, 199001);
        x.miles(1);
        Due.due("SIDE of a POST beyond THE LINE", x.dig(0, 5, 6, 0), 5 - 99);
        Due.due("ALONG of a POST beyond THE LINE", x.dig(0, 5, 6, 1), 6 + 99);
    }

    private static void promise28AnyNumbers() {
        Due.sentence("(side, along: any numbers)");
        NeedleLine x = new NeedleLine();
        x.tree(1, 0, 199199);
        x.tree(1, 0, 1001);
        Due.due("the least less 99", x.dig(0, Integer.MIN_VALUE, 0, 0), Integer.MAX_VALUE - 98);
        Due.due("the least less 99", x.dig(0, 0, Integer.MIN_VALUE, 1), Integer.MAX_VALUE - 98);
        Due.due("the most less -99", x.dig(1, Integer.MAX_VALUE, 0, 0), Integer.MIN_VALUE + 98);
        Due.due("the most less -99", x.dig(1, 0, Integer.MAX_VALUE, 1), Integer.MIN_VALUE + 98);
        Due.due("the most less 99", x.dig(0, Integer.MAX_VALUE, 0, 0), Integer.MAX_VALUE - 99);
        Due.due("an answer like BEYOND", x.dig(0, -1000000001 + 99, 0, 0), BEYOND);
        Due.due("is no ERROR", x.told(1), 0);
    }

    private static void promise29() {
        Due.sentence("Of a SORT of TREES: how many. BEYOND.");
        Twins.bounds("sorts(*)", 0, 5, (x, v) -> x.sorts(v));
        NeedleLine x = new NeedleLine();
        for (int sort = 0; sort < 6; sort++) {
            Due.due("sorts(" + sort + ") of none", x.sorts(sort), 0);
        }
        for (int tree = 0; tree < 16; tree++) {
            x.tree(24, tree < 15 ? 5 : 0, 100100);
        }
        x.miles(1);
        Due.due("fifteen of the last SORT, beyond THE LINE", x.sorts(5), 15);
        Due.due("one of the first", x.sorts(0), 1);
        Due.due("none of the one between", x.sorts(1), 0);
    }

    private static void promise30Bounds() {
        Due.sentence("READERS waver: n (1 .. 24) MILES from a MILE on (of 0 .. 23; those beyond are left out, and have no draw) by "
                + "d (0 .. 99)");
        Twins.bounds("waver(*, 2, 5)", 0, 23, (x, v) -> x.waver(v, 2, 5));
        Twins.bounds("waver(1, *, 5)", 1, 24, (x, v) -> x.waver(1, v, 5));
        Twins.bounds("waver(1, 2, *)", 0, 99, (x, v) -> x.waver(1, 2, v));
    }

    /** z behind so many draws from 1 on. */
    private static int behind(int draws) {
        int z = 1;
        for (int i = 0; i < draws; i++) {
            z = next(z);
        }
        return z;
    }

    private static void promise30MilesBeyond() {
        Due.sentence("(of 0 .. 23; those beyond are left out, and have no draw)");
        int[][] fromAndN = {{0, 1}, {0, 23}, {0, 24}, {1, 23}, {1, 24}, {22, 1}, {22, 2}, {22, 3}, {23, 1}, {23, 2}, {23, 24}};
        int[] draws = {1, 23, 24, 23, 23, 1, 2, 2, 1, 1, 1};
        for (int i = 0; i < draws.length; i++) {
            NeedleLine x = new NeedleLine();
            x.miles(24);
            int from = fromAndN[i][0];
            x.waver(from, fromAndN[i][1], 99);
            Due.due("z behind " + draws[i] + " draws", x.count(7), behind(draws[i]));
            for (int mile = 0; mile < 24; mile++) {
                boolean wavers = mile >= from && mile < from + draws[i];
                Due.due("WAVER of MILE " + mile, x.mileIs(mile, 4), wavers ? waverOf(behind(mile - from + 1), 99) : 0);
            }
        }
    }

    private static void promise30BeyondTheLine() {
        Due.sentence("n (1 .. 24) MILES from a MILE on (of 0 .. 23;");
        NeedleLine x = new NeedleLine();
        x.miles(1);
        Due.due("MILES beyond THE LINE: MISS in SIDE", x.waver(1, 23, 99), 0);
        Due.due("they have draws", x.count(7), behind(23));
        x.miles(24);
        Due.due("the WAVER of the last", x.mileIs(23, 4), waverOf(behind(23), 99));
        Due.due("the WAVER of the first", x.mileIs(0, 4), 0);
    }

    private static void promise30MissInSide() {
        Due.sentence("by d (0 .. 99): MISS in SIDE then.");
        NeedleLine x = new NeedleLine();
        x.stone(-40, 0);
        int first = waverOf(behind(1), 99);
        Due.due("waver(11, 1, 99)", x.waver(11, 1, 99), first + 40);
        Due.due("waver(11, 1, 0), in place of it", x.waver(11, 1, 0), 40);
        Due.due("by 0 it draws, too", x.count(7), behind(2));
        Due.due("waver(12, 1, 99) behind THE LINE", x.waver(12, 1, 99), 40);
    }

    private static void promise31() {
        Due.sentence("All WAVERS are 0: how many weren't.");
        NeedleLine x = new NeedleLine();
        Due.due("still() of none", x.still(), 0);
        x.waver(0, 24, 0);
        Due.due("still() of those that are 0", x.still(), 0);
        x.seed(SEED_OF_WAVERS);
        x.waver(0, 24, 99);
        x.miles(24);
        for (int mile = 0; mile < 24; mile++) {
            Due.isTrue("MILE " + mile + " wavers", x.mileIs(mile, 4) != 0);
        }
        int z = x.count(7);
        x.miles(1);
        Due.due("still(), beyond THE LINE, too", x.still(), 24);
        Due.due("still() again", x.still(), 0);
        x.miles(24);
        for (int mile = 0; mile < 24; mile++) {
            Due.due("WAVER of MILE " + mile, x.mileIs(mile, 4), 0);
        }
        Due.due("z stays", x.count(7), z);
    }

    private static void promise32() {
        Due.sentence("z becomes v: what it was (any number).");
        NeedleLine x = new NeedleLine();
        int was = 1;
        for (int v : new int[] {0, -1, Integer.MIN_VALUE, Integer.MAX_VALUE, -1000000000, -1000000001, 1}) {
            Due.due("seed(" + v + ")", x.seed(v), was);
            Due.due("count(7)", x.count(7), v);
            was = v;
        }
        Due.due("told(1)", x.told(1), 0);
    }
}
