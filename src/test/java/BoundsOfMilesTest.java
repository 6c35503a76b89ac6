import java.util.function.ToLongFunction;

/** The sentences on THE LINE, its MILES and SLIPS (Terms 1, promises 1 to 10), each with its boundary cases. */
public final class BoundsOfMilesTest {
    private static final long BEYOND = -1000000001;
    private static final long FULL = -1000000004;
    private static final long KIND = -1000000005;

    public static void main(String[] args) {
        milesOfTheLine();
        numbersOfMilesAndPosts();
        whatMilesHaveAtFirst();
        boundsOfWhatMilesHave();
        theStoneAtFirst();
        boundsOfTheStone();
        slipsAreEight();
        kindsOfSlips();
        milesOfSlipsCountBeyondTheLine();
        boundsOfM();
        slipsAreOnAtFirst();
        slipsAtTheEndsOfTheirSpans();
        slipsOfASpanOfOneMile();
        needleLeansInItsFirstMileAlone();
        chainShortensBySlope();
        countedShortensMoreInItsFirstMile();
        handedLeansInEachMile();
        offsetPushesIfThereIsSwamp();
        madePushesHalfAndShortens();
        checksSetTheHeadingRight();
        slipsThatAreOffDoNothing();
        sideOfTheNextPost();
        alongOfTheNextPost();
        allIsWorkedOutAnew();
        allIsWorkedOutAnewForEachThatAsks();
        missOfTheLastPost();
        promise1();
        promise2WhatItHad();
        promise2WhatMilesHaveStays();
        promise3();
        promise3MilesBeyondTheLine();
        promise4MilesOfTheLineAlone();
        promise4What();
        promise5();
        promise6NumbersOfSlips();
        promise6MilesInOneNumber();
        promise6Full();
        promise7();
        promise8OfThatKindOrUnderIt();
        promise8Bounds();
        promise9();
        promise10();
        promise10OnOrOff();
        Due.end();
    }

    private static void milesOfTheLine() {
        Due.sentence("THE LINE has n MILES (1 .. 24; 12 at first)");
        Due.due("count(0) at first", new NeedleLine().count(0), 12);
        for (int n : new int[] {1, 24}) {
            NeedleLine x = new NeedleLine();
            x.miles(n);
            Due.due("count(0) with " + n, x.count(0), n);
            Due.due("ALONG of the last POST of " + n, x.post(n, 1), 1760 * n);
            Due.due("a POST behind the last of " + n, x.post(n + 1, 1), BEYOND);
        }
    }

    private static void numbersOfMilesAndPosts() {
        Due.sentence("numbered from 0; POST 0 stands at 0, 0; POST i + 1 at the end of MILE i.");
        NeedleLine x = new NeedleLine();
        x.miles(3);
        for (int mile = 0; mile < 3; mile++) {
            x.mile(mile, 0, 7);
            for (int post = 0; post <= 3; post++) {
                Due.due("SIDE of POST " + post, x.post(post, 0), post > mile ? 7 : 0);
            }
            x.mile(mile, 0, 0);
            x.mile(mile, 1, 9);
            for (int post = 0; post <= 3; post++) {
                Due.due("ALONG of POST " + post, x.post(post, 1), 1760 * post - (post > mile ? 27 : 0));
            }
            x.mile(mile, 1, 0);
        }
    }

    private static void whatMilesHaveAtFirst() {
        Due.sentence("all 0 at first, and a CHECK or none (none at first)");
        NeedleLine x = new NeedleLine();
        x.miles(24);
        for (int mile = 0; mile < 24; mile++) {
            for (int what = 0; what < 5; what++) {
                Due.due("mileIs(" + mile + ", " + what + ")", x.mileIs(mile, what), 0);
            }
        }
        Due.due("count(3)", x.count(3), 0);
    }

    private static void boundsOfWhatMilesHave() {
        Due.sentence("Each MILE has IRON (-99 .. 99), SLOPE (0 .. 9), SWAMP (0 .. 99)");
        Twins.bounds("mile(2, 0, *)", -99, 99, (x, v) -> x.mile(2, 0, v));
        Twins.bounds("mile(2, 1, *)", 0, 9, (x, v) -> x.mile(2, 1, v));
        Twins.bounds("mile(2, 2, *)", 0, 99, (x, v) -> x.mile(2, 2, v));
        Twins.bounds("mile(2, 3, *)", 0, 1, (x, v) -> x.mile(2, 3, v));
        int[] least = {-99, 0, 0, 0};
        int[] most = {99, 9, 99, 1};
        NeedleLine x = new NeedleLine();
        for (int what = 0; what < 4; what++) {
            x.mile(0, what, least[what]);
            Due.due("the least of " + what, x.mileIs(0, what), least[what]);
            x.mile(0, what, most[what]);
            Due.due("the most of " + what, x.mileIs(0, what), most[what]);
        }
    }

    private static void theStoneAtFirst() {
        Due.sentence("THE STONE stands at SIDE, ALONG as told (-9999 .. 9999; 0 .. 99999; 0, 12 times 1760 at first)");
        NeedleLine x = new NeedleLine();
        x.miles(1);
        Due.due("miss(0)", x.miss(0), 0);
        Due.due("miss(1)", x.miss(1), 1760 - 12 * 1760);
    }

    private static void boundsOfTheStone() {
        Due.sentence("THE STONE stands at SIDE, ALONG as told (-9999 .. 9999; 0 .. 99999; 0, 12 times 1760 at first)");
        Twins.bounds("stone(*, 5)", -9999, 9999, (x, v) -> x.stone(v, 5));
        Twins.bounds("stone(5, *)", 0, 99999, (x, v) -> x.stone(5, v));
        NeedleLine x = new NeedleLine();
        x.stone(-9999, 0);
        Due.due("miss(0) of -9999", x.miss(0), 9999);
        Due.due("miss(1) of 0", x.miss(1), 12 * 1760);
        x.stone(9999, 99999);
        Due.due("miss(0) of 9999", x.miss(0), -9999);
        Due.due("miss(1) of 99999", x.miss(1), 12 * 1760 - 99999);
    }

    private static void slipsAreEight() {
        Due.sentence("SLIPS 0, 1, .. (at most 8)");
        NeedleLine x = new NeedleLine();
        for (int slip = 0; slip < 8; slip++) {
            Due.due("slip " + slip, x.slip(4, 0, slip), slip);
        }
        Due.due("a ninth", x.slip(4, 0, 9), FULL);
        Due.due("count(1)", x.count(1), 8);
        Due.due("all eight LEAN", x.post(1, 0), 28);
    }

    private static void kindsOfSlips() {
        Due.sentence("of KINDS: 0 SLIP, 1 NEEDLE under SLIP, 2 CHAIN under SLIP, 3 COUNTED under CHAIN, 4 HANDED under "
                + "NEEDLE, 5 OFFSET under SLIP, 6 MADE under OFFSET");
        Twins.bounds("slip(*, 0, 0)", 0, 6, (x, v) -> x.slip(v, 0, 0));
        int[] above = {0, 0, 0, 2, 1, 0, 5};
        for (int kind = 0; kind < 7; kind++) {
            NeedleLine x = new NeedleLine();
            x.slip(kind, 0, 30 + kind);
            for (int as = 0; as < 7; as++) {
                boolean is = as == kind || as == above[kind] || as == 0;
                Due.due("a SLIP of " + kind + " as " + as, x.as(0, as), is ? 30 + kind : KIND);
            }
        }
    }

    private static void milesOfSlipsCountBeyondTheLine() {
        Due.sentence("(numbers of 0 .. 23, as told; they count though THE LINE may be shorter)");
        NeedleLine x = new NeedleLine();
        x.miles(1);
        Due.due("a SLIP from MILE 23 to 23", x.slip(4, 2323, 3), 0);
        Due.due("a SLIP from MILE 0 to 23", x.slip(4, 23, 5), 1);
        Due.due("a SLIP from MILE 0 to 24", x.slip(4, 24, 5), BEYOND);
        Due.due("a SLIP from MILE 24 to 24", x.slip(4, 2424, 5), BEYOND);
        Due.due("from, as told", x.slipIs(0, 1), 23);
        Due.due("to, as told", x.slipIs(1, 2), 23);
        Due.due("LEANS beyond THE LINE", x.does(0, 23, 0), 3);
        Due.due("SIDE of the last POST of one", x.post(1, 0), 5);
        x.miles(24);
        Due.due("SIDE of the last POST of 24", x.post(24, 0), 5 * 24 * 25 / 2 + 3);
    }

    private static void boundsOfM() {
        Due.sentence("with a number m (-99 .. 99), on (at first) or off");
        Twins.bounds("slip(4, 0, *)", -99, 99, (x, v) -> x.slip(4, 0, v));
        NeedleLine x = new NeedleLine();
        x.slip(4, 0, -99);
        Due.due("m is -99", x.slipIs(0, 3), -99);
        x.slip(4, 0, 99);
        Due.due("m is 99", x.slipIs(1, 3), 99);
    }

    private static void slipsAreOnAtFirst() {
        Due.sentence("with a number m (-99 .. 99), on (at first) or off");
        NeedleLine x = new NeedleLine();
        for (int slip = 0; slip < 7; slip++) {
            x.slip(slip, 0, 1);
            Due.due("SLIP " + slip + " at first", x.slipIs(slip, 4), 1);
            Due.due("turn(" + slip + ", 0)", x.turn(slip, 0), 1);
        }
    }

    /** LEANS, PUSHES, SHORTENS of a SLIP at a MILE. */
    private static void does(NeedleLine x, int slip, int mile, int... due) {
        for (int what = 0; what < 3; what++) {
            Due.due("KIND " + x.slipIs(slip, 0) + ": does(" + slip + ", " + mile + ", " + what + ")",
                    x.does(slip, mile, what), due[what]);
        }
    }

    private static NeedleLine ofAllKinds(int ft, int m) {
        NeedleLine x = new NeedleLine();
        for (int kind = 0; kind < 7; kind++) {
            x.slip(kind, ft, m);
        }
        return x;
    }

    private static void slipsAtTheEndsOfTheirSpans() {
        Due.sentence("At a MILE of its span a SLIP LEANS (the heading), PUSHES (to the side), SHORTENS (along): SLIP: 0, 0, 0.");
        NeedleLine x = ofAllKinds(1013, 20);
        for (int mile = 9; mile <= 14; mile++) {
            x.mile(mile, 2, 99);
        }
        for (int kind = 0; kind < 7; kind++) {
            does(x, kind, 9, 0, 0, 0);
            does(x, kind, 14, 0, 0, 0);
            does(x, kind, 0, 0, 0, 0);
            does(x, kind, 23, 0, 0, 0);
        }
        for (int mile : new int[] {10, 13}) {
            boolean isFirst = mile == 10;
            does(x, 0, mile, 0, 0, 0);
            does(x, 1, mile, isFirst ? 20 : 0, 0, 0);
            does(x, 2, mile, 0, 0, 20);
            does(x, 3, mile, 0, 0, isFirst ? 86 : 20);
            does(x, 4, mile, 20, 0, 0);
            does(x, 5, mile, 0, 20, 0);
            does(x, 6, mile, 0, 10, 40);
        }
    }

    private static void slipsOfASpanOfOneMile() {
        Due.sentence("each from a MILE to a MILE");
        for (int mile : new int[] {0, 23}) {
            NeedleLine x = ofAllKinds(101 * mile, 8);
            x.mile(mile, 2, 1);
            does(x, 1, mile, 8, 0, 0);
            does(x, 2, mile, 0, 0, 8);
            does(x, 3, mile, 0, 0, 74);
            does(x, 4, mile, 8, 0, 0);
            does(x, 5, mile, 0, 8, 0);
            does(x, 6, mile, 0, 4, 16);
            for (int kind = 0; kind < 7; kind++) {
                does(x, kind, mile == 0 ? 1 : 22, 0, 0, 0);
            }
        }
    }

    private static void needleLeansInItsFirstMileAlone() {
        Due.sentence("NEEDLE: LEANS m in its first MILE alone.");
        NeedleLine x = ofAllKinds(204, -9);
        int[] due = {0, 0, -9, 0, 0, 0};
        for (int mile = 0; mile < due.length; mile++) {
            does(x, 1, mile, due[mile], 0, 0);
        }
    }

    private static void chainShortensBySlope() {
        Due.sentence("CHAIN: SHORTENS by m times (SLOPE and 1).");
        NeedleLine x = ofAllKinds(1, -7);
        x.mile(1, 1, 9);
        does(x, 2, 0, 0, 0, -7);
        does(x, 2, 1, 0, 0, -70);
        x.mile(1, 1, 1);
        does(x, 2, 1, 0, 0, -14);
    }

    private static void countedShortensMoreInItsFirstMile() {
        Due.sentence("COUNTED: as CHAIN, and 66 more in its first MILE.");
        NeedleLine x = ofAllKinds(102, 99);
        x.mile(1, 1, 9);
        x.mile(2, 1, 9);
        does(x, 3, 0, 0, 0, 0);
        does(x, 3, 1, 0, 0, 990 + 66);
        does(x, 3, 2, 0, 0, 990);
        does(x, 3, 3, 0, 0, 0);
    }

    private static void handedLeansInEachMile() {
        Due.sentence("HANDED: LEANS m in each MILE of its span.");
        NeedleLine x = ofAllKinds(204, -9);
        int[] due = {0, 0, -9, -9, -9, 0};
        for (int mile = 0; mile < due.length; mile++) {
            does(x, 4, mile, due[mile], 0, 0);
        }
    }

    private static void offsetPushesIfThereIsSwamp() {
        Due.sentence("OFFSET: PUSHES m, if SWAMP is above 0.");
        NeedleLine x = ofAllKinds(0, 99);
        int[] swamps = {0, 1, 99};
        for (int swamp : swamps) {
            x.mile(0, 2, swamp);
            does(x, 5, 0, 0, swamp > 0 ? 99 : 0, 0);
        }
    }

    private static void madePushesHalfAndShortens() {
        Due.sentence("MADE: as OFFSET, but PUSHES half of that, and SHORTENS by twice its m.");
        NeedleLine x = ofAllKinds(0, -99);
        does(x, 6, 0, 0, 0, -198);
        x.mile(0, 2, 1);
        does(x, 6, 0, 0, -49, -198);
        x.mile(0, 1, 9);
        does(x, 6, 0, 0, -49, -198);
    }

    private static void checksSetTheHeadingRight() {
        Due.sentence("HEADING is 0 at first; MILE by MILE: if the MILE has a CHECK, HEADING is 0 first; then HEADING is "
                + "more by all that LEANS there");
        NeedleLine x = new NeedleLine();
        x.miles(4);
        x.slip(4, 3, 10);
        int[][] due = {{10, 20, 30, 40}, {10, 20, 30, 40}, {10, 10, 20, 30}, {10, 20, 10, 20}, {10, 20, 30, 10}};
        for (int check = -1; check < 4; check++) {
            x.mile(Math.max(check, 0), 3, check < 0 ? 0 : 1);
            for (int mile = 0; mile < 4; mile++) {
                Due.due("HEADING in MILE " + mile + ", CHECK at " + check, x.mileIs(mile, 6), due[check + 1][mile]);
            }
            x.mile(Math.max(check, 0), 3, 0);
        }
        for (int mile = 0; mile < 4; mile++) {
            x.mile(mile, 3, 1);
        }
        Due.due("SIDE with a CHECK at each MILE", x.post(4, 0), 40);
    }

    private static void slipsThatAreOffDoNothing() {
        Due.sentence("all that LEANS there (by SLIPS that are on)");
        NeedleLine x = ofAllKinds(0, 20);
        x.mile(0, 2, 1);
        for (int slip = 0; slip < 7; slip++) {
            x.turn(slip, 0);
        }
        for (int what = 6; what <= 8; what++) {
            Due.due("mileIs(0, " + what + ") of all off", x.mileIs(0, what), 0);
        }
        Due.due("post(1, 0) of all off", x.post(1, 0), 0);
        Due.due("post(1, 1) of all off", x.post(1, 1), 1760);
        x.turn(4, 1);
        x.turn(6, 1);
        Due.due("mileIs(0, 6) of two on", x.mileIs(0, 6), 20);
        Due.due("mileIs(0, 7) of two on", x.mileIs(0, 7), 10);
        Due.due("mileIs(0, 8) of two on", x.mileIs(0, 8), 40);
    }

    private static void sideOfTheNextPost() {
        Due.sentence("SIDE of the next POST is that of this one, and HEADING, IRON, all that PUSHES, and WAVER of the MILE "
                + "(0 at first)");
        NeedleLine x = new NeedleLine();
        x.miles(2);
        x.slip(4, 0, 1);
        Due.due("with HEADING", x.post(1, 0), 1);
        x.mile(0, 0, 20);
        Due.due("with IRON", x.post(1, 0), 21);
        x.mile(0, 2, 1);
        x.slip(5, 0, 99);
        Due.due("with PUSHES", x.post(1, 0), 120);
        x.waver(0, 1, 99);
        Due.due("with WAVER", x.post(1, 0), 120 + x.mileIs(0, 4));
        Due.isTrue("a WAVER that is not 0", x.mileIs(0, 4) != 0);
        Due.due("the next one, with HEADING", x.post(2, 0), 121 + x.mileIs(0, 4));
    }

    private static void alongOfTheNextPost() {
        Due.sentence("ALONG is that of this one, and 1760, less SLOPE times 3, less all that SHORTENS.");
        NeedleLine x = new NeedleLine();
        x.miles(24);
        for (int mile = 0; mile < 24; mile++) {
            x.mile(mile, 1, 9);
        }
        Due.due("with the most of SLOPE", x.post(24, 1), 24 * (1760 - 27));
        for (int slip = 0; slip < 8; slip++) {
            x.slip(2, 23, 99);
        }
        Due.due("the least ALONG", x.post(24, 1), 24 * (1760 - 27 - 8 * 990));
        NeedleLine y = new NeedleLine();
        y.slip(6, 0, -99);
        Due.due("SHORTENS below 0", y.post(1, 1), 1760 + 198);
    }

    private static void allIsWorkedOutAnew() {
        Due.sentence("All is worked out anew as things change.");
        NeedleLine x = new NeedleLine();
        x.miles(2);
        Due.due("at first", x.post(2, 0), 0);
        x.mile(0, 0, 4);
        Due.due("with IRON", x.post(2, 0), 4);
        x.slip(4, 1, 3);
        Due.due("with a SLIP", x.post(2, 0), 13);
        x.mile(1, 3, 1);
        Due.due("with a CHECK", x.post(2, 0), 10);
        x.turn(0, 0);
        Due.due("with the SLIP off", x.post(2, 0), 4);
        x.mile(1, 3, 0);
        x.turn(0, 1);
        Due.due("with the SLIP on", x.post(2, 0), 13);
        x.miles(1);
        Due.due("MISS of a shorter LINE", x.miss(0), 7);
        x.stone(7, 1760);
        Due.due("MISS of another STONE", x.miss(2), 0);
        x.image();
        x.mile(0, 0, 5);
        x.restore();
        Due.due("as in the IMAGE", x.post(1, 0), 7);
    }

    private static NeedleLine changed() {
        NeedleLine x = Rich.open();
        x.mile(0, 0, 0);
        x.turn(0, 0);
        x.turn(5, 0);
        x.stone(250, 7000);
        return x;
    }

    /** Right behind a change an act answers as it does when another that asks for POSTS stands between. */
    private static void anew(String call, ToLongFunction<NeedleLine> asked) {
        NeedleLine other = changed();
        other.post(0, 0);
        long due = asked.applyAsLong(other);
        Due.isTrue(call + " is another one behind the change", due != asked.applyAsLong(Rich.open()));
        Due.due(call + " right behind the change", asked.applyAsLong(changed()), due);
    }

    private static void allIsWorkedOutAnewForEachThatAsks() {
        Due.sentence("All is worked out anew as things change.");
        anew("mileIs(4, 6)", x -> x.mileIs(4, 6));
        anew("post(2, 0)", x -> x.post(2, 0));
        anew("post(2, 2)", x -> x.post(2, 2));
        anew("post(2, 3)", x -> x.post(2, 3));
        anew("post(2, 4)", x -> x.post(2, 4));
        anew("miss(0)", x -> x.miss(0));
        anew("miss(1)", x -> x.miss(1));
        anew("miss(2)", x -> x.miss(2));
        anew("wronged(16)", x -> x.wronged(16));
        anew("which(1)", x -> x.which(1));
        anew("checks(1, 1)", x -> x.checks(1, 1));
        anew("checks(2, 1)", x -> x.checks(2, 1));
        anew("leaning()", x -> x.leaning());
        anew("straight(0)", x -> x.straight(0));
        anew("offIt()", x -> x.offIt());
        anew("nearest(70, 868)", x -> x.nearest(70, 868));
        anew("crosses()", x -> x.crosses());
        anew("treeIs(2, 4)", x -> x.treeIs(2, 4));
        anew("waver(23, 1, 0)", x -> x.waver(23, 1, 0));
        anew("judge(0, 0)", x -> x.judge(0, 0));
        anew("check()", x -> x.check());
    }

    private static void missOfTheLastPost() {
        Due.sentence("MISS: SIDE of the last POST less that of THE STONE, ALONG likewise.");
        NeedleLine x = new NeedleLine();
        x.miles(24);
        x.mile(23, 0, 5);
        x.stone(3, 24 * 1760 + 4);
        Due.due("miss(0)", x.miss(0), 2);
        Due.due("miss(1)", x.miss(1), -4);
        Due.due("miss(2)", x.miss(2), 6);
        x.miles(1);
        Due.due("miss(0) of one MILE", x.miss(0), -3);
        Due.due("miss(1) of one MILE", x.miss(1), -23 * 1760 - 4);
        Due.due("miss(2) of one MILE", x.miss(2), 23 * 1760 + 7);
    }

    private static void promise1() {
        Due.sentence("All as at first; no SLIPS, TREES.");
        NeedleLine x = new NeedleLine();
        int[] counts = {12, 0, 0, 0, 0, 0, 0, 1};
        for (int what = 0; what < counts.length; what++) {
            Due.due("count(" + what + ")", x.count(what), counts[what]);
        }
        Due.due("slipIs(0, 0)", x.slipIs(0, 0), BEYOND);
        Due.due("treeIs(0, 0)", x.treeIs(0, 0), BEYOND);
        Due.due("untell(0)", x.untell(0), 0);
        Due.due("untell(1)", x.untell(1), 0);
        Due.due("body(0)", x.body(0), -1000000002);
        Due.due("restore()", x.restore(), -1000000002);
        NeedleLine y = new NeedleLine();
        y.miles(3);
        y.slip(1, 0, 1);
        Due.due("another object stays: MILES", x.count(0), 12);
        Due.due("another object stays: SLIPS", x.count(1), 0);
    }

    private static void promise2WhatItHad() {
        Due.sentence("THE LINE has n MILES: what it had (what MILES have stays). BEYOND.");
        Twins.bounds("miles(*)", 1, 24, (x, v) -> x.miles(v));
        NeedleLine x = new NeedleLine();
        Due.due("miles(24)", x.miles(24), 12);
        Due.due("miles(1)", x.miles(1), 24);
        Due.due("miles(1) again", x.miles(1), 1);
        Due.due("miles(24) again", x.miles(24), 1);
    }

    private static void promise2WhatMilesHaveStays() {
        Due.sentence("THE LINE has n MILES: what it had (what MILES have stays). BEYOND.");
        NeedleLine x = new NeedleLine();
        x.miles(24);
        for (int mile = 1; mile < 24; mile += 22) {
            x.mile(mile, 0, -99);
            x.mile(mile, 1, 9);
            x.mile(mile, 2, 99);
            x.mile(mile, 3, 1);
        }
        x.waver(23, 1, 99);
        int waver = x.mileIs(23, 4);
        Due.isTrue("a WAVER that is not 0", waver != 0);
        x.miles(1);
        x.miles(24);
        for (int mile = 1; mile < 24; mile += 22) {
            Due.due("IRON of MILE " + mile, x.mileIs(mile, 0), -99);
            Due.due("SLOPE of MILE " + mile, x.mileIs(mile, 1), 9);
            Due.due("SWAMP of MILE " + mile, x.mileIs(mile, 2), 99);
            Due.due("CHECK of MILE " + mile, x.mileIs(mile, 3), 1);
        }
        Due.due("WAVER of MILE 23", x.mileIs(23, 4), waver);
    }

    private static void promise3() {
        Due.sentence("IRON (what 0), SLOPE (1), SWAMP (2), CHECK (3: 1, 0) of a MILE of 0 .. 23 becomes v: what it was. BEYOND.");
        Twins.bounds("mile(*, 0, 1)", 0, 23, (x, v) -> x.mile(v, 0, 1));
        Twins.bounds("mile(0, *, 1)", 0, 3, (x, v) -> x.mile(0, v, 1));
        Twins.bounds("mile(0, 3, *)", 0, 1, (x, v) -> x.mile(0, 3, v));
        NeedleLine x = new NeedleLine();
        int[] values = {-99, 9, 99, 1};
        for (int what = 0; what < 4; what++) {
            Due.due("at first", x.mile(7, what, values[what]), 0);
            Due.due("what it was", x.mile(7, what, values[what]), values[what]);
        }
        for (int what = 0; what < 4; what++) {
            Due.due("what it became", x.mileIs(7, what), values[what]);
            Due.due("of the MILE ahead", x.mileIs(6, what), 0);
            Due.due("of the MILE behind", x.mileIs(8, what), 0);
        }
    }

    private static void promise3MilesBeyondTheLine() {
        Due.sentence("of a MILE of 0 .. 23 becomes v");
        NeedleLine x = new NeedleLine();
        x.miles(1);
        Due.due("mile(1, 0, 8): right behind THE LINE", x.mile(1, 0, 8), 0);
        Due.due("mile(23, 0, 9): the last there can be", x.mile(23, 0, 9), 0);
        Due.due("it does nothing yet", x.post(1, 0), 0);
        x.miles(24);
        Due.due("SIDE of POST 2", x.post(2, 0), 8);
        Due.due("SIDE of POST 23", x.post(23, 0), 8);
        Due.due("SIDE of POST 24", x.post(24, 0), 17);
    }

    private static NeedleLine ofMiles(int n) {
        NeedleLine x = Rich.open();
        x.miles(n);
        return x;
    }

    private static void promise4MilesOfTheLineAlone() {
        Due.sentence("Of a MILE of THE LINE: 0 IRON, 1 SLOPE, 2 SWAMP, 3 CHECK, 4 WAVER, 5 HOURS, 6 HEADING in it");
        for (int n : new int[] {1, 5, 24}) {
            for (int what = 0; what < 9; what++) {
                int its = what;
                Twins.bounds(() -> ofMiles(n), "mileIs(*, " + what + ") of " + n, 0, n - 1, (x, v) -> x.mileIs(v, its));
            }
        }
    }

    private static void promise4What() {
        Due.sentence("6 HEADING in it, 7 all that PUSHES there, 8 all that SHORTENS there. BEYOND.");
        Twins.bounds("mileIs(0, *)", 0, 8, (x, v) -> x.mileIs(0, v));
        NeedleLine x = new NeedleLine();
        for (int slip = 0; slip < 8; slip++) {
            x.slip(slip % 2 == 0 ? 4 : 6, 11, 99);
        }
        x.mile(11, 2, 1);
        Due.due("HEADING in the last MILE", x.mileIs(11, 6), 12 * 4 * 99);
        Due.due("all that PUSHES in the last MILE", x.mileIs(11, 7), 4 * 49);
        Due.due("all that SHORTENS in the last MILE", x.mileIs(11, 8), 4 * 198);
        Due.due("none PUSHES without SWAMP", x.mileIs(10, 7), 0);
    }

    private static void promise5() {
        Due.sentence("THE STONE: 1. BEYOND.");
        NeedleLine x = new NeedleLine();
        Due.due("stone(9999, 99999)", x.stone(9999, 99999), 1);
        Due.due("stone(-9999, 0)", x.stone(-9999, 0), 1);
        Due.due("stone(-9999, 0) again", x.stone(-9999, 0), 1);
        Twins.refused("stone(-10000, -1)", BEYOND, line -> line.stone(-10000, -1));
        Twins.refused("stone(0, -1)", BEYOND, line -> line.stone(0, -1));
        Twins.refused("stone(10000, 0)", BEYOND, line -> line.stone(10000, 0));
    }

    private static void promise6NumbersOfSlips() {
        Due.sentence("A SLIP: its number.");
        NeedleLine x = new NeedleLine();
        Due.due("the first", x.slip(0, 0, 0), 0);
        Due.due("one that is refused has none", x.slip(0, 0, 100), BEYOND);
        Due.due("the second", x.slip(0, 0, 0), 1);
    }

    private static void promise6MilesInOneNumber() {
        Due.sentence("ft: 100 times the MILE from which, and that to which (that not less). BEYOND. FULL.");
        int[] taken = {0, 1, 23, 101, 123, 1212, 1223, 2222, 2223, 2323};
        for (int ft : taken) {
            NeedleLine x = new NeedleLine();
            Due.due("slip(1, " + ft + ", 2)", x.slip(1, ft, 2), 0);
            Due.due("from of " + ft, x.slipIs(0, 1), ft / 100);
            Due.due("to of " + ft, x.slipIs(0, 2), ft % 100);
        }
        int[] refused = {24, 99, 100, 124, 199, 200, 201, 1211, 2322, 2324, 2300, 2399, 2400, 2423, 2424, 10000, -1, -99,
            -100, -101, -2323, Integer.MIN_VALUE, Integer.MAX_VALUE};
        for (int ft : refused) {
            Twins.refused("slip(1, " + ft + ", 2)", BEYOND, x -> x.slip(1, ft, 2));
        }
    }

    private static void promise6Full() {
        Due.sentence("ft: 100 times the MILE from which, and that to which (that not less). BEYOND. FULL.");
        NeedleLine x = Rich.open();
        Due.due("the eighth", x.slip(0, 0, 0), 7);
        Due.due("the ninth", x.slip(0, 0, 0), FULL);
        x.restore();
        Due.due("the second, as in the IMAGE", x.slip(0, 0, 0), 1);
    }

    private static void promise7() {
        Due.sentence("Of a SLIP: 0 KIND, 1 from, 2 to, 3 m, 4 1 if on, else 0. BEYOND.");
        Twins.bounds("slipIs(0, *)", 0, 4, (x, v) -> x.slipIs(0, v));
        Twins.bounds("slipIs(*, 3) of seven", 0, 6, (x, v) -> x.slipIs(v, 3));
        Twins.bounds(Rich::fullOfSlips, "slipIs(*, 3) of eight", 0, 7, (x, v) -> x.slipIs(v, 3));
        NeedleLine x = new NeedleLine();
        x.slip(6, 2323, -99);
        x.slip(0, 0, 99);
        x.turn(1, 0);
        int[][] due = {{6, 23, 23, -99, 1}, {0, 0, 0, 99, 0}};
        for (int slip = 0; slip < 2; slip++) {
            for (int what = 0; what < 5; what++) {
                Due.due("slipIs(" + slip + ", " + what + ")", x.slipIs(slip, what), due[slip][what]);
            }
        }
    }

    private static void promise8OfThatKindOrUnderIt() {
        Due.sentence("A SLIP as one of a KIND: m. BEYOND. KIND: it is not of that KIND, nor of one under it.");
        NeedleLine x = new NeedleLine();
        x.slip(4, 0, -99);
        x.slip(1, 0, 99);
        Due.due("HANDED as HANDED", x.as(0, 4), -99);
        Due.due("HANDED as NEEDLE above it", x.as(0, 1), -99);
        Due.due("HANDED as SLIP above that", x.as(0, 0), -99);
        Due.due("NEEDLE as HANDED under it", x.as(1, 4), KIND);
        Due.due("NEEDLE as CHAIN beside it", x.as(1, 2), KIND);
        Due.due("told(5)", x.told(5), 2);
    }

    private static void promise8Bounds() {
        Due.sentence("A SLIP as one of a KIND: m. BEYOND.");
        Twins.bounds(Rich::fullOfSlips, "as(*, 0) of eight", 0, 7, (x, v) -> x.as(v, 0));
        for (int kind : new int[] {-1, 7, Integer.MIN_VALUE, Integer.MAX_VALUE}) {
            Twins.refused("as(6, " + kind + ")", BEYOND, x -> x.as(6, kind));
        }
        Twins.refused("as(1, 6)", KIND, x -> x.as(1, 6));
        Twins.changesNothing("as(6, 6)", 11, x -> x.as(6, 6));
        Twins.changesNothing("as(6, 0)", 11, x -> x.as(6, 0));
    }

    private static void promise9() {
        Due.sentence("A SLIP is on (1), off (0): what it was. BEYOND.");
        Twins.bounds("turn(0, *)", 0, 1, (x, v) -> x.turn(0, v));
        Twins.bounds("turn(*, 0) of seven", 0, 6, (x, v) -> x.turn(v, 0));
        NeedleLine x = new NeedleLine();
        x.slip(4, 0, 5);
        Due.due("turn(0, 1), on already", x.turn(0, 1), 1);
        Due.due("turn(0, 0)", x.turn(0, 0), 1);
        Due.due("turn(0, 0), off already", x.turn(0, 0), 0);
        Due.due("post(1, 0), off", x.post(1, 0), 0);
        Due.due("turn(0, 1)", x.turn(0, 1), 0);
        Due.due("post(1, 0), on", x.post(1, 0), 5);
    }

    private static void promise10() {
        Due.sentence("What a SLIP does at a MILE of 0 .. 23 (on or off): what 0 LEANS, 1 PUSHES, 2 SHORTENS. BEYOND.");
        for (int n : new int[] {1, 24}) {
            Twins.bounds(() -> ofMiles(n), "does(5, *, 0) of " + n, 0, 23, (x, v) -> x.does(5, v, 0));
        }
        Twins.bounds("does(5, 3, *)", 0, 2, (x, v) -> x.does(5, 3, v));
        Twins.bounds("does(*, 3, 0) of seven", 0, 6, (x, v) -> x.does(v, 3, 0));
    }

    private static void promise10OnOrOff() {
        Due.sentence("(on or off)");
        NeedleLine x = ofAllKinds(0, 12);
        x.mile(0, 2, 1);
        for (int slip = 0; slip < 7; slip++) {
            x.turn(slip, 0);
        }
        does(x, 1, 0, 12, 0, 0);
        does(x, 2, 0, 0, 0, 12);
        does(x, 3, 0, 0, 0, 78);
        does(x, 4, 0, 12, 0, 0);
        does(x, 5, 0, 0, 12, 0);
        does(x, 6, 0, 0, 6, 24);
    }
}
