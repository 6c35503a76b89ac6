/** The sentences on POSTS, FARMS, CHECKS and STRAIGHT (Terms 3, promises 14 to 25), each with its boundary cases. */
public final class BoundsOfPostsTest {
    private static final long BEYOND = -1000000001;
    private static final long NONE = -1000000002;

    public static void main(String[] args) {
        movedByTheMoving();
        movedIsCutTowardZero();
        movedPostZero();
        farmsBetweenPosts();
        wrongedByYardsOrMore();
        wrongedToBothSides();
        whichOfThoseThatAreOn();
        whichOfSeveralTheLeast();
        whichWithoutSigns();
        checksAsTheOnlyOnes();
        checksOfSeveralTheLeastAsBits();
        checksOfSeveralPairsTheLeastAsBits();
        checksWithoutSign();
        checksWithAllElseOfTheMiles();
        sumOfHours();
        straightInLowestTerms();
        straightOfTheLongestLine();
        offItOfSeveralTheLeast();
        offItOfTheEnds();
        promise14Posts();
        promise14What();
        promise15();
        promise16();
        promise16FarthestYards();
        promise17();
        promise17NoneIsOn();
        promise18();
        promise18NotSoManyMiles();
        promise19();
        promise20Bounds();
        promise20OrLess();
        promise20NoHours();
        promise21();
        promise21WithoutSign();
        promise22();
        promise23();
        promise24Bounds();
        promise24OfSeveralTheLeast();
        promise24BothDifferences();
        promise25();
        promise25SideZero();
        Due.end();
    }

    /** Irons that bring POSTS 1, 2, .. to these SIDES; none may be over 99 from the one ahead. */
    private static NeedleLine withSides(int... sides) {
        NeedleLine x = new NeedleLine();
        x.miles(sides.length);
        for (int i = 0; i < sides.length; i++) {
            x.mile(i, 0, sides[i] - (i == 0 ? 0 : sides[i - 1]));
            Due.due("SIDE of POST " + (i + 1), x.post(i + 1, 0), sides[i]);
        }
        return x;
    }

    private static void movedByTheMoving() {
        Due.sentence("MOVED: SIDE of a POST less MISS in SIDE times MOVING by 100; ALONG likewise (POST 0, too).");
        NeedleLine x = withSides(10, 30);
        x.stone(-70, 3420);
        int[] movings = {0, 1, 50, 99, 100};
        for (int moving : movings) {
            Texts.told(x, 0, Integer.toString(moving));
            Due.due("SIDE, MOVING " + moving, x.post(1, 2), 10 - moving);
            Due.due("ALONG, MOVING " + moving, x.post(1, 3), 1760 - moving);
        }
        Due.due("the last POST, SIDE, MOVING 100", x.post(2, 2), -70);
        Due.due("the last POST, ALONG, MOVING 100", x.post(2, 3), 3420);
        Due.due("where it went, SIDE", x.post(2, 0), 30);
        Due.due("where it went, ALONG", x.post(2, 1), 3520);
    }

    private static void movedIsCutTowardZero() {
        Due.sentence("MOVED: SIDE of a POST less MISS in SIDE times MOVING by 100");
        NeedleLine x = withSides(0);
        Texts.told(x, 0, "50");
        int[] misses = {-3, -2, -1, 0, 1, 2, 3};
        int[] taken = {-1, -1, 0, 0, 0, 1, 1};
        for (int i = 0; i < misses.length; i++) {
            x.stone(-misses[i], 1760 - misses[i]);
            Due.due("SIDE with a MISS of " + misses[i], x.post(1, 2), -taken[i]);
            Due.due("ALONG with a MISS of " + misses[i], x.post(1, 3), 1760 - taken[i]);
        }
    }

    private static void movedPostZero() {
        Due.sentence("ALONG likewise (POST 0, too).");
        NeedleLine x = withSides(60);
        x.stone(0, 1700);
        Due.due("SIDE of POST 0 without a TEXT", x.post(0, 2), 0);
        Due.due("ALONG of POST 0 without a TEXT", x.post(0, 3), 0);
        Texts.told(x, 0, "100");
        Due.due("SIDE of POST 0", x.post(0, 2), -60);
        Due.due("ALONG of POST 0", x.post(0, 3), -60);
        Due.due("where it went", x.post(0, 0), 0);
    }

    private static void farmsBetweenPosts() {
        Due.sentence("FARMS lie to the right of THE LINE, FARM i between POST i and POST i + 1.");
        NeedleLine x = new NeedleLine();
        x.miles(24);
        x.stone(100, 0);
        int[] posts = {0, 1, 12, 23, 24};
        int[] farms = {1, 3, 3 << 11, 3 << 22, 1 << 23};
        for (int i = 0; i < posts.length; i++) {
            Texts.told(x, 0, "(i=" + posts[i] + ")*100");
            Due.due("FARMS of POST " + posts[i] + " alone", x.wronged(1), farms[i]);
        }
        x.miles(1);
        Texts.told(x, 0, "100");
        Due.due("FARMS of one MILE", x.wronged(1), 1);
    }

    private static void wrongedByYardsOrMore() {
        Due.sentence("FARMS of which POST i or POST i + 1, as MOVED, has a SIDE by y or more other than where it went.");
        NeedleLine x = withSides(0, 0);
        x.stone(-40, 0);
        Due.due("POST 1 moves 20, POST 2 moves 40: by 19", x.wronged(19), 3);
        Due.due("by 20", x.wronged(20), 3);
        Due.due("by 21", x.wronged(21), 2);
        Due.due("by 40", x.wronged(40), 2);
        Due.due("by 41", x.wronged(41), 0);
        x.stone(0, 0);
        Due.due("no MISS", x.wronged(1), 0);
        x.stone(0, 99999);
        Due.due("a MISS in ALONG alone", x.wronged(1), 0);
    }

    private static void wrongedToBothSides() {
        Due.sentence("has a SIDE by y or more other than where it went.");
        NeedleLine x = withSides(0);
        for (int side : new int[] {-7, 7}) {
            x.stone(side, 0);
            Due.due("by 6, STONE at " + side, x.wronged(6), 1);
            Due.due("by 7, STONE at " + side, x.wronged(7), 1);
            Due.due("by 8, STONE at " + side, x.wronged(8), 0);
        }
    }

    private static void whichOfThoseThatAreOn() {
        Due.sentence("WHICH SLIP: the one that is on, without which (off) the MISS (its SIDE without sign and its ALONG "
                + "without sign, together) is least; of several the least. LEFT: that MISS then.");
        NeedleLine x = new NeedleLine();
        x.slip(1, 1111, 20);
        x.slip(2, 1111, 30);
        x.slip(6, 1111, 5);
        Due.due("which(0)", x.which(0), 1);
        Due.due("which(1)", x.which(1), 30);
        x.turn(1, 0);
        Due.due("which(0) of two", x.which(0), 0);
        Due.due("which(1) of two", x.which(1), 10);
        x.turn(0, 0);
        Due.due("which(0) of one", x.which(0), 2);
        Due.due("which(1) of one", x.which(1), 0);
        Due.due("it is on still", x.slipIs(2, 4), 1);
        Due.due("those off are off still", x.slipIs(0, 4) + x.slipIs(1, 4), 0);
    }

    private static void whichOfSeveralTheLeast() {
        Due.sentence("together) is least; of several the least. LEFT: that MISS then.");
        NeedleLine x = new NeedleLine();
        for (int slip = 0; slip < 8; slip++) {
            x.slip(4, 1111, 6);
        }
        Due.due("of eight alike", x.which(0), 0);
        Due.due("LEFT", x.which(1), 42);
        x.turn(0, 0);
        x.turn(1, 0);
        Due.due("of six alike that are on", x.which(0), 2);
        NeedleLine last = new NeedleLine();
        for (int slip = 0; slip < 8; slip++) {
            last.slip(4, 1111, slip);
        }
        Due.due("the last of eight", last.which(0), 7);
        Due.due("LEFT without it", last.which(1), 21);
    }

    private static void whichWithoutSigns() {
        Due.sentence("(its SIDE without sign and its ALONG without sign, together)");
        NeedleLine x = new NeedleLine();
        x.slip(4, 1111, -30);
        x.slip(2, 1111, -20);
        Due.due("which(0): 20 over in ALONG, 30 to the left", x.which(0), 0);
        Due.due("which(1)", x.which(1), 20);
        x.stone(-6, 12 * 1760 - 9);
        Due.due("which(0), STONE elsewhere", x.which(0), 1);
        Due.due("which(1), STONE elsewhere", x.which(1), 24 + 9);
        x.stone(-5, 12 * 1760 - 9);
        Due.due("which(0), 5 and 29 or 25 and 9", x.which(0), 0);
        Due.due("which(1), 5 and 29 or 25 and 9", x.which(1), 34);
    }

    private static void checksAsTheOnlyOnes() {
        Due.sentence("that set of k MILES of THE LINE which, as the only CHECKS, makes SIDE of the last POST, less that of THE "
                + "STONE, without sign, least");
        NeedleLine x = new NeedleLine();
        x.miles(4);
        x.slip(4, 3, 10);
        x.mile(1, 3, 1);
        x.mile(3, 3, 1);
        x.stone(100, 0);
        Due.due("a CHECK at MILE 0 alone leaves the SIDE at 100", x.checks(1, 0), 1);
        Due.due("how far that is off", x.checks(1, 1), 0);
        Due.due("two CHECKS, one at MILE 0", x.checks(2, 0), 3);
        Due.due("how far that is off", x.checks(2, 1), 30);
        Due.due("the CHECKS stay", x.count(3), 2);
    }

    private static void checksOfSeveralTheLeastAsBits() {
        Due.sentence("least; of several the least as bits.");
        NeedleLine x = new NeedleLine();
        x.miles(24);
        Due.due("checks(1, 0), all alike", x.checks(1, 0), 1);
        Due.due("checks(2, 0), all alike", x.checks(2, 0), 3);
        x.slip(1, 0, 10);
        Due.due("a NEEDLE in MILE 0: the CHECK right behind it", x.checks(1, 0), 2);
        x.slip(1, 2323, -10);
        x.turn(0, 0);
        x.stone(-10, 0);
        Due.due("a NEEDLE in MILE 23: all alike", x.checks(1, 0), 1);
    }

    private static void checksOfSeveralPairsTheLeastAsBits() {
        Due.sentence("CHECKS by k (1, 2): that set of k MILES of THE LINE");
        NeedleLine x = new NeedleLine();
        x.miles(5);
        x.slip(1, 0, 10);
        x.slip(1, 303, 10);
        x.stone(0, 0);
        // With CHECKS at a and b the NEEDLES lean 10 a MILE from 0 on to the first behind 0, and from 3 on.
        Due.due("right behind both", x.checks(2, 0), 1 << 1 | 1 << 4);
        Due.due("how far that is off", x.checks(2, 1), 20);
        x.miles(3);
        Due.due("MILES 1 and 0, 1 and 2 alike: 3, not 6", x.checks(2, 0), 3);
        x.stone(20, 0);
        Due.due("MILES 0 and 2: 5, not 6", x.checks(2, 0), 5);
        x.stone(15, 0);
        Due.due("10 or 20 for 15: 3, not 5 or 6", x.checks(2, 0), 3);
        x.miles(24);
        x.slip(1, 2222, 99);
        x.stone(20, 0);
        Due.due("MILES 4 and 23: the last there can be", x.checks(2, 0), 1 << 4 | 1 << 23);
        Due.due("how far that is off", x.checks(2, 1), 40 + 10 + 99 - 20);
    }

    private static void checksWithoutSign() {
        Due.sentence("less that of THE STONE, without sign, least");
        NeedleLine x = new NeedleLine();
        x.miles(2);
        x.slip(1, 0, 9);
        x.stone(8, 0);
        Due.due("9 or 18 for 8", x.checks(1, 1), 1);
        x.stone(10, 0);
        Due.due("9 or 18 for 10", x.checks(1, 1), 1);
        x.stone(13, 0);
        Due.due("9 or 18 for 13: MILE 1", x.checks(1, 0), 2);
        x.stone(14, 0);
        Due.due("9 or 18 for 14: MILE 0", x.checks(1, 0), 1);
        x.stone(-9999, 0);
        Due.due("far to the left: MILE 1", x.checks(1, 0), 2);
        Due.due("far to the left", x.checks(1, 1), 10008);
        x.stone(9999, 0);
        Due.due("far to the right: MILE 0", x.checks(1, 0), 1);
        Due.due("far to the right", x.checks(1, 1), 9981);
    }

    private static void checksWithAllElseOfTheMiles() {
        Due.sentence("makes SIDE of the last POST, less that of THE STONE, without sign, least");
        NeedleLine x = new NeedleLine();
        x.miles(3);
        x.slip(4, 2, 10);
        x.stone(100, 0);
        Due.due("LEANS alone: 60", x.checks(1, 1), 40);
        x.mile(1, 0, 7);
        Due.due("and IRON", x.checks(1, 1), 33);
        x.mile(2, 2, 1);
        x.slip(5, 2, -9);
        Due.due("and what PUSHES", x.checks(1, 1), 42);
        x.waver(0, 1, 99);
        Due.due("and a WAVER", x.checks(1, 1), Math.abs(58 + x.mileIs(0, 4) - 100));
        x.turn(1, 0);
        Due.due("without what is off", x.checks(1, 1), Math.abs(67 + x.mileIs(0, 4) - 100));
    }

    private static void sumOfHours() {
        Due.sentence("SUM OF HOURS: of all MILES.");
        NeedleLine x = new NeedleLine();
        x.mile(11, 1, 9);
        x.mile(12, 1, 5);
        Due.due("of 12", x.hours(), 12 * 8 + 9);
        x.miles(13);
        Due.due("of 13", x.hours(), 13 * 8 + 14);
        x.miles(1);
        Due.due("of one", x.hours(), 8);
    }

    private static void straight(NeedleLine x, long above, long below) {
        Due.due("straight(0) of " + above + " by " + below, x.straight(0), above);
        Due.due("straight(1) of " + above + " by " + below, x.straight(1), below);
    }

    private static void straightInLowestTerms() {
        Due.sentence("all i times SIDE, together, by all i times i, together: a fraction in lowest terms.");
        straight(withSides(0), 0, 1);
        straight(withSides(0, 0, 0), 0, 1);
        straight(withSides(-2, 1), 0, 1);
        straight(withSides(5), 5, 1);
        straight(withSides(-5), -5, 1);
        straight(withSides(99, 0), 99, 5);
        straight(withSides(5, 0), 1, 1);
        straight(withSides(-5, 0), -1, 1);
        straight(withSides(1, 1), 3, 5);
        straight(withSides(-1, -1), -3, 5);
        straight(withSides(4, 0, 2), 5, 7);
        straight(withSides(-4, 0, -2), -5, 7);
        straight(withSides(0, 0, 1), 3, 14);
    }

    private static void straightOfTheLongestLine() {
        Due.sentence("of POSTS 1 to n together, are least");
        for (int m : new int[] {-99, 99}) {
            NeedleLine x = new NeedleLine();
            x.miles(24);
            for (int slip = 0; slip < 8; slip++) {
                x.slip(4, 23, m);
            }
            // SIDE of POST i is 8 m i (i + 1) / 2; all i times that by all i times i is 4 m (all i^3 by all i^2, and 1).
            long cubes = 300L * 300;
            long squares = 4900;
            long above = 4L * m * (cubes + squares);
            Due.due("STRAIGHT crosswise", x.straight(0) * squares, above * x.straight(1));
            Due.due("below the line", x.straight(1), 49);
        }
    }

    private static void offItOfSeveralTheLeast() {
        Due.sentence("OFF IT: the POST of 1 .. n whose SIDE is farthest from b times i; of several the least.");
        Due.due("all on it", withSides(0, 0, 0).offIt(), 1);
        Due.due("all on a slope", withSides(10, 20, 30, 40).offIt(), 1);
        Due.due("POSTS 1 and 2 as far, on both sides", withSides(-10, 5, 0, 0).offIt(), 1);
        Due.due("POSTS 2 and 3 of four, as far", withSides(0, -30, 20, 0).offIt(), 2);
    }

    private static void offItOfTheEnds() {
        Due.sentence("OFF IT: the POST of 1 .. n whose SIDE is farthest from b times i");
        for (int n : new int[] {1, 24}) {
            NeedleLine x = new NeedleLine();
            x.miles(n);
            Due.due("of " + n + ", all on it", x.offIt(), 1);
            x.mile(n - 1, 0, 99);
            Due.due("of " + n + ", the last moved", x.offIt(), n);
        }
        NeedleLine far = new NeedleLine();
        far.miles(24);
        for (int slip = 0; slip < 8; slip++) {
            far.slip(4, 23, 99);
        }
        // b is 4 * 99 * 949 / 49; POST i is off by 4 * 99 * i * (i + 1 - 949 / 49): most at i = 9, but more at 24.
        Due.due("of the steepest", far.offIt(), 24);
    }

    private static void promise14Posts() {
        Due.sentence("Of a POST of THE LINE (0 .. n)");
        for (int n : new int[] {1, 5, 24}) {
            for (int what = 0; what < 6; what++) {
                int its = what;
                Twins.bounds(() -> ofMiles(n), "post(*, " + what + ") of " + n, 0, n, (x, v) -> x.post(v, its));
            }
        }
    }

    private static NeedleLine ofMiles(int n) {
        NeedleLine x = Rich.open();
        x.miles(n);
        return x;
    }

    private static void promise14What() {
        Due.sentence("0 SIDE, 1 ALONG, 2, 3 these as MOVED, 4 MOVING, 5 how many TREES WITNESS it. BEYOND.");
        Twins.bounds("post(0, *)", 0, 5, (x, v) -> x.post(0, v));
        Twins.bounds("post(5, *)", 0, 5, (x, v) -> x.post(5, v));
        NeedleLine x = new NeedleLine();
        x.miles(1);
        x.mile(0, 0, 99);
        x.tree(1, 0, 100100);
        int[] first = {0, 0, 0, 0, 0, 0};
        int[] last = {99, 1760, 0, 12 * 1760, 100, 1};
        for (int what = 0; what < 6; what++) {
            Due.due("post(0, " + what + ")", x.post(0, what), first[what]);
            Due.due("post(1, " + what + ")", x.post(1, what), last[what]);
        }
    }

    private static void promise15() {
        Due.sentence("MISS: what 0 in SIDE, 1 in ALONG, 2 both without sign together. BEYOND.");
        Twins.bounds("miss(*)", 0, 2, (x, v) -> x.miss(v));
        int[] signs = {-1, 1};
        for (int side : signs) {
            for (int along : signs) {
                NeedleLine x = new NeedleLine();
                x.stone(-3 * side, 12 * 1760 - 5 * along);
                Due.due("miss(0)", x.miss(0), 3 * side);
                Due.due("miss(1)", x.miss(1), 5 * along);
                Due.due("miss(2)", x.miss(2), 8);
            }
        }
    }

    private static void promise16() {
        Due.sentence("WRONGED by y (1 .. 9999), as bits. BEYOND.");
        Twins.bounds("wronged(*)", 1, 9999, (x, v) -> x.wronged(v));
        NeedleLine x = new NeedleLine();
        x.miles(24);
        x.stone(100, 0);
        Due.due("all FARMS but those of POST 0 alone", x.wronged(4), (1 << 24) - 1);
        Due.due("by a yard more", x.wronged(5), (1 << 24) - 2);
        x.stone(0, 0);
        Due.due("none", x.wronged(1), 0);
    }

    private static void promise16FarthestYards() {
        Due.sentence("WRONGED by y (1 .. 9999), as bits.");
        for (int side : new int[] {-9999, 9999}) {
            NeedleLine x = new NeedleLine();
            x.stone(side, 0);
            Due.due("by 9999, STONE at " + side, x.wronged(9999), 1 << 11);
            Due.due("by 9998, STONE at " + side, x.wronged(9998), 1 << 11);
            x.mile(11, 0, side < 0 ? -1 : 1);
            Due.due("by 9999, a yard nearer", x.wronged(9999), 0);
        }
    }

    private static void promise17() {
        Due.sentence("WHICH SLIP: what 0 its number, 1 LEFT. BEYOND. NONE: none is on.");
        Twins.bounds("which(*)", 0, 1, (x, v) -> x.which(v));
        Twins.bounds(Rich::fullOfSlips, "which(*) of eight", 0, 1, (x, v) -> x.which(v));
        Twins.changesNothing("which(0)", Rich.open().which(0), x -> x.which(0));
    }

    private static NeedleLine allOff() {
        NeedleLine x = Rich.open();
        for (int slip = 0; slip < 7; slip++) {
            x.turn(slip, 0);
        }
        return x;
    }

    private static void promise17NoneIsOn() {
        Due.sentence("NONE: none is on.");
        for (int what = 0; what < 2; what++) {
            int its = what;
            Twins.refused(NeedleLine::new, "which(" + what + ") without SLIPS", NONE, x -> x.which(its));
            Twins.refused(BoundsOfPostsTest::allOff, "which(" + what + ") of all off", NONE, x -> x.which(its));
        }
        NeedleLine x = allOff();
        x.turn(6, 1);
        Due.due("which(0), the last alone on", x.which(0), 6);
    }

    private static void promise18() {
        Due.sentence("CHECKS by k: what 0 the set, 1 how far that is off. BEYOND: k, what.");
        Twins.bounds("checks(*, 0)", 1, 2, (x, v) -> x.checks(v, 0));
        Twins.bounds("checks(1, *)", 0, 1, (x, v) -> x.checks(1, v));
        Twins.bounds("checks(2, *)", 0, 1, (x, v) -> x.checks(2, v));
        int set = Rich.open().checks(2, 0);
        Twins.changesNothing("checks(2, 0)", set, x -> x.checks(2, 0));
    }

    private static void promise18NotSoManyMiles() {
        Due.sentence("NONE: THE LINE has not so many MILES.");
        Twins.refused(() -> ofMiles(1), "checks(2, 0) of one MILE", NONE, x -> x.checks(2, 0));
        Twins.refused(() -> ofMiles(1), "checks(2, 1) of one MILE", NONE, x -> x.checks(2, 1));
        NeedleLine x = new NeedleLine();
        x.slip(4, 23, 7);
        x.stone(0, 0);
        x.miles(1);
        Due.due("checks(1, 0) of one MILE", x.checks(1, 0), 1);
        Due.due("checks(1, 1) of one MILE", x.checks(1, 1), 7);
        x.miles(2);
        Due.due("checks(2, 0) of two MILES", x.checks(2, 0), 3);
        Due.due("checks(2, 1) of two MILES", x.checks(2, 1), 14);
        Due.due("checks(1, 0) of two MILES", x.checks(1, 0), 2);
        Due.due("checks(1, 1) of two MILES", x.checks(1, 1), 14);
    }

    private static void promise19() {
        Due.sentence("SUM OF HOURS.");
        NeedleLine x = new NeedleLine();
        x.miles(24);
        Texts.told(x, 1, "9999");
        Due.due("the most", x.hours(), 24 * 999);
        Texts.told(x, 1, "0");
        Due.due("the least", x.hours(), 0);
        Texts.told(x, 1, "i");
        Due.due("i from 0", x.hours(), 23 * 12);
        x.miles(1);
        Due.due("i of MILE 0", x.hours(), 0);
    }

    private static void promise20Bounds() {
        Due.sentence("How many MILES of THE LINE, from the first on, take h HOURS (0 .. 99999) or less together. BEYOND.");
        Twins.bounds("within(*)", 0, 99999, (x, v) -> x.within(v));
        NeedleLine x = new NeedleLine();
        x.miles(24);
        Texts.told(x, 1, "9999");
        Due.due("within(99999) of the most HOURS", x.within(99999), 24);
        Due.due("within(24 * 999)", x.within(24 * 999), 24);
        Due.due("within(24 * 999 - 1)", x.within(24 * 999 - 1), 23);
    }

    private static void promise20OrLess() {
        Due.sentence("take h HOURS (0 .. 99999) or less together.");
        NeedleLine x = new NeedleLine();
        x.miles(3);
        int[] hours = {0, 7, 8, 9, 15, 16, 23, 24, 25};
        int[] due = {0, 0, 1, 1, 1, 2, 2, 3, 3};
        for (int i = 0; i < hours.length; i++) {
            Due.due("within(" + hours[i] + ")", x.within(hours[i]), due[i]);
        }
    }

    private static void promise20NoHours() {
        Due.sentence("How many MILES of THE LINE, from the first on");
        NeedleLine x = new NeedleLine();
        Texts.told(x, 1, "0");
        Due.due("within(0), all for nothing", x.within(0), 12);
        Texts.told(x, 1, "i>3");
        Due.due("within(0), four for nothing", x.within(0), 4);
        Due.due("within(1)", x.within(1), 5);
        Texts.told(x, 1, "i<1");
        Due.due("within(0), all but the first for nothing", x.within(0), 0);
        Due.due("within(1), all", x.within(1), 12);
    }

    private static void promise21() {
        Due.sentence("The MILE of THE LINE with the greatest HEADING without sign; of several the least.");
        NeedleLine x = new NeedleLine();
        Due.due("all alike", x.leaning(), 0);
        x.slip(1, 1111, 1);
        Due.due("the last", x.leaning(), 11);
        x.slip(1, 1212, 9);
        Due.due("not one beyond THE LINE", x.leaning(), 11);
        x.miles(13);
        Due.due("the last of more", x.leaning(), 12);
        x.miles(1);
        Due.due("of one MILE", x.leaning(), 0);
        x.miles(24);
        Due.due("of several the least: 12 to 23", x.leaning(), 12);
    }

    private static void promise21WithoutSign() {
        Due.sentence("with the greatest HEADING without sign; of several the least.");
        NeedleLine x = new NeedleLine();
        x.slip(1, 202, -5);
        x.slip(1, 404, 10);
        Due.due("-5 ahead of 5", x.leaning(), 2);
        x.slip(1, 606, 1);
        Due.due("6 behind -5", x.leaning(), 6);
        x.slip(1, 808, -13);
        Due.due("-7 behind 6", x.leaning(), 8);
    }

    private static void promise22() {
        Due.sentence("STRAIGHT: part 0 above, 1 below the line. BEYOND.");
        Twins.bounds("straight(*)", 0, 1, (x, v) -> x.straight(v));
        straight(withSides(-99), -99, 1);
        straight(withSides(99), 99, 1);
    }

    private static void promise23() {
        Due.sentence("OFF IT.");
        Due.due("of one MILE", withSides(-99).offIt(), 1);
        Due.due("of two, the first farther", withSides(9, 0).offIt(), 1);
        Due.due("of three, the second", withSides(0, 9, 0).offIt(), 2);
        Due.due("of three, the second, to the left", withSides(0, -9, 0).offIt(), 2);
        Due.due("of four, the last", withSides(0, 0, 0, 50).offIt(), 4);
    }

    private static void promise24Bounds() {
        Due.sentence("The POST of 0 .. n that is nearest to a place (SIDE -99999 .. 99999, ALONG 0 .. 99999: both differences "
                + "without sign together); of several the least. BEYOND.");
        Twins.bounds("nearest(*, 0)", -99999, 99999, (x, v) -> x.nearest(v, 0));
        Twins.bounds("nearest(0, *)", 0, 99999, (x, v) -> x.nearest(0, v));
        for (int n : new int[] {1, 24}) {
            NeedleLine x = new NeedleLine();
            x.miles(n);
            Due.due("the first of " + n, x.nearest(0, 0), 0);
            Due.due("the last of " + n, x.nearest(99999, 99999), n);
            Due.due("the last of " + n, x.nearest(-99999, 99999), n);
        }
    }

    private static void promise24OfSeveralTheLeast() {
        Due.sentence("of several the least. BEYOND.");
        NeedleLine x = new NeedleLine();
        x.miles(2);
        Due.due("half a MILE less a yard", x.nearest(0, 879), 0);
        Due.due("half a MILE", x.nearest(0, 880), 0);
        Due.due("half a MILE and a yard", x.nearest(0, 881), 1);
        Due.due("a MILE and a half", x.nearest(0, 2640), 1);
        Due.due("that and a yard", x.nearest(0, 2641), 2);
    }

    private static void promise24BothDifferences() {
        Due.sentence("both differences without sign together");
        NeedleLine x = withSides(45, -45);
        Due.due("far to the right of both", x.nearest(99, 2640), 1);
        Due.due("far to the left of both", x.nearest(-99, 2640), 2);
        Due.due("between, of several the least", x.nearest(0, 2640), 1);
        Due.due("90 and 835, or 925", x.nearest(-45, 2595), 1);
        Due.due("90 and 836, or 924", x.nearest(-45, 2596), 2);
    }

    private static void promise25() {
        Due.sentence("Whether THE LINE crosses SIDE 0: how many MILES have POSTS at their ends with SIDES of unlike signs (one "
                + "below 0, one above).");
        Due.due("from -1 to 1", withSides(-1, 1).crosses(), 1);
        Due.due("from 1 to -1", withSides(1, -1).crosses(), 1);
        Due.due("from 1 to 1", withSides(1, 1).crosses(), 0);
        Due.due("from -1 to -1", withSides(-1, -1).crosses(), 0);
        int[] sides = new int[24];
        for (int i = 0; i < sides.length; i++) {
            sides[i] = i % 2 == 0 ? 1 : -1;
        }
        Due.due("all MILES but the first of 24", withSides(sides).crosses(), 23);
        NeedleLine x = withSides(1, -1, 1);
        x.miles(1);
        Due.due("MILES beyond THE LINE don't count", x.crosses(), 0);
    }

    private static void promise25SideZero() {
        Due.sentence("with SIDES of unlike signs (one below 0, one above).");
        Due.due("POST 0 is at 0", withSides(5).crosses(), 0);
        Due.due("POST 0 is at 0", withSides(-5).crosses(), 0);
        Due.due("by way of 0", withSides(5, 0, -5).crosses(), 0);
        Due.due("to 0 and back", withSides(-5, 0, -5).crosses(), 0);
        Due.due("all at 0", withSides(0, 0, 0).crosses(), 0);
    }
}
