import java.util.function.ToLongFunction;

/** The sentences on ERRORS and on how long an object is used, each with its boundary cases. */
public final class BoundsOfErrorsTest {
    private static final long LOW = -1000000000;
    private static final long BEYOND = LOW - 1;
    private static final long NONE = LOW - 2;
    private static final long STATE = LOW - 3;
    private static final long FULL = LOW - 4;
    private static final long KIND = LOW - 5;
    private static final long PARTED = LOW - 6;

    public static void main(String[] args) {
        usedFor512Calls();
        usedFor512CallsThatAreRefused();
        laterCallsAnswer();
        numbersOfTheErrors();
        numbersOfTheErrorsInLongs();
        answersThatAreAnyNumberAreNoErrors();
        orderOfTheErrorsOfSlipsAndTexts();
        orderOfTheErrorsOfPostsAndTrees();
        orderOfTheErrorsOfSheets();
        refusedCallsChangeNothing();
        refusedCallsForFullRowsChangeNothing();
        refusedCallsOnANewObjectChangeNothing();
        partedChangesTheTraceAlone();
        quotientsOfTheLine();
        quotientsOfTexts();
        quotientsOfVoices();
        Due.end();
    }

    private static void usedFor512Calls() {
        Due.sentence("An object is used for at most 512 calls after it has been made");
        NeedleLine x = new NeedleLine();
        for (int call = 1; call < 512; call++) {
            x.image();
        }
        Due.due("image(), the 512th call", x.image(), 512);
    }

    private static void usedFor512CallsThatAreRefused() {
        Due.sentence("An object is used for at most 512 calls after it has been made");
        NeedleLine x = new NeedleLine();
        for (int call = 1; call < 512; call++) {
            x.miles(25);
        }
        Due.due("told(1), the 512th call", x.told(1), 511);
    }

    /** What they answer is free, but ../shared/LANGUAGE.md has no call that fails. */
    private static void laterCallsAnswer() {
        Due.sentence("what later calls answer is free.");
        NeedleLine x = Rich.open();
        int calls = 0;
        for (int time = 0; time < 600; time++) {
            x.miles(1 + time % 25);
            x.slip(time % 8, 2323, time % 100);
            x.voice(time % 9, time % 5, time);
            x.waver(time % 25, 24, 99);
            x.text(time % 3);
            x.restore();
            calls += 6;
        }
        Due.due("calls that have answered", calls, 3600);
    }

    private static NeedleLine withSlip(int kind, int m) {
        NeedleLine x = new NeedleLine();
        x.slip(kind, 0, m);
        return x;
    }

    private static void numbersOfTheErrors() {
        Due.sentence("ERRORS are answers below -1000000000: LOW is -1000000000; LOW - 1 BEYOND, LOW - 2 NONE, LOW - 3 STATE, "
                + "LOW - 4 FULL, LOW - 5 KIND, LOW - 6 PARTED");
        Due.due("BEYOND", new NeedleLine().miles(0), -1000000001);
        Due.due("NONE", new NeedleLine().restore(), -1000000002);
        Due.due("STATE", new NeedleLine().sheet(0, 8, -1), -1000000003);
        Due.due("FULL", Rich.withTape(60).feed(0, 1), -1000000004);
        Due.due("KIND", withSlip(0, 0).as(0, 1), -1000000005);
        Due.due("PARTED", withSlip(0, 0).voice(0, 3, 1), -1000000006);
    }

    private static void numbersOfTheErrorsInLongs() {
        Due.sentence("(in longs, too)");
        Due.due("straight(2)", new NeedleLine().straight(2), -1000000001L);
        Due.due("straight(-1)", new NeedleLine().straight(-1), -1000000001L);
    }

    private static void answersThatAreAnyNumberAreNoErrors() {
        Due.sentence("(any number)");
        NeedleLine x = withSlip(0, 0);
        x.tree(1, 0, 100100);
        for (int k = 0; k <= 7; k++) {
            int number = (int) LOW - k;
            x.seed(number);
            Due.due("count(7)", x.count(7), number);
            Due.due("seed(number)", x.seed(number), number);
            Due.due("dig(0, number, 0, 0)", x.dig(0, number, 0, 0), number);
            Due.due("dig(0, 0, number, 1)", x.dig(0, 0, number, 1), number);
            Due.due("voice(0, 0, number)", x.voice(0, 0, number), number);
        }
        for (int k = 1; k <= 6; k++) {
            Due.due("told(" + k + ")", x.told(k), 0);
        }
    }

    private static void orderOfTheErrorsOfSlipsAndTexts() {
        Due.sentence("Each act tells its ERRORS in the order in which they are asked");
        NeedleLine x = Rich.fullOfSlips();
        Due.due("slip: BEYOND of KIND ahead of FULL", x.slip(7, 0, 0), BEYOND);
        Due.due("slip: BEYOND of ft ahead of FULL", x.slip(0, 24, 0), BEYOND);
        Due.due("slip: BEYOND of m ahead of FULL", x.slip(0, 0, 100), BEYOND);
        Due.due("slip: FULL", x.slip(0, 0, 0), FULL);
        Due.due("as: BEYOND of KIND ahead of KIND", x.as(1, 7), BEYOND);
        Due.due("as: BEYOND of SLIP ahead of KIND", x.as(8, 1), BEYOND);
        Due.due("as: KIND", x.as(1, 2), KIND);
        NeedleLine taped = Rich.withTape(60);
        Due.due("feed: BEYOND ahead of FULL", taped.feed(0, 9), BEYOND);
        Due.due("feed: BEYOND of 0 ahead of FULL", taped.feed(0, 0), BEYOND);
        Due.due("feed: FULL", taped.feed(0, 8), FULL);
    }

    private static void orderOfTheErrorsOfPostsAndTrees() {
        Due.sentence("Each act tells its ERRORS in the order in which they are asked");
        NeedleLine x = Rich.fullOfTrees();
        Due.due("tree: BEYOND of POST ahead of FULL", x.tree(0, 0, 100100), BEYOND);
        Due.due("tree: BEYOND of SORT ahead of FULL", x.tree(1, 6, 100100), BEYOND);
        Due.due("tree: BEYOND of so ahead of FULL", x.tree(1, 0, 100000), BEYOND);
        Due.due("tree: FULL", x.tree(1, 0, 100100), FULL);
        x.miles(1);
        Due.due("treeIs: BEYOND of what ahead of NONE", x.treeIs(2, 6), BEYOND);
        Due.due("treeIs: BEYOND of TREE ahead of NONE", x.treeIs(16, 4), BEYOND);
        Due.due("treeIs: NONE", x.treeIs(2, 4), NONE);
        Due.due("checks: BEYOND of k ahead of NONE", x.checks(3, 0), BEYOND);
        Due.due("checks: BEYOND of what ahead of NONE", x.checks(2, 2), BEYOND);
        Due.due("checks: NONE", x.checks(2, 0), NONE);
        NeedleLine without = new NeedleLine();
        Due.due("which: BEYOND ahead of NONE", without.which(2), BEYOND);
        Due.due("which: NONE", without.which(1), NONE);
        NeedleLine parted = withSlip(0, 0);
        Due.due("voice: BEYOND of SLIP ahead of PARTED", parted.voice(1, 3, 0), BEYOND);
        Due.due("voice: BEYOND of VOICE ahead of PARTED", parted.voice(0, 4, 0), BEYOND);
        Due.due("voice: PARTED", parted.voice(0, 3, 0), PARTED);
    }

    private static void orderOfTheErrorsOfSheets() {
        Due.sentence("Each act tells its ERRORS in the order in which they are asked");
        NeedleLine x = Rich.open();
        Due.due("sheet: BEYOND of SHEET ahead of STATE", x.sheet(4, 8, -1), BEYOND);
        Due.due("sheet: BEYOND of bits ahead of STATE", x.sheet(0, 9, -1), BEYOND);
        Due.due("sheet: STATE ahead of BEYOND of n", x.sheet(0, 8, -1), STATE);
        Due.due("sheet: BEYOND of n", x.sheet(0, 8, 25), BEYOND);
        Due.due("put: BEYOND of SHEET ahead of all", x.put(4, -1, 0), BEYOND);
        Due.due("put: NONE ahead of BEYOND of number", x.put(3, -1, 0), NONE);
        Due.due("put: BEYOND of number", x.put(0, -1, 0), BEYOND);
        Due.due("move: BEYOND of SHEET ahead of NONE", x.move(3, 0, 4, 0, 0), BEYOND);
        Due.due("move: BEYOND of SHEET ahead of NONE", x.move(-1, 0, 3, 0, 0), BEYOND);
        Due.due("move: NONE ahead of KIND and of BEYOND of n", x.move(0, 0, 3, 0, -1), NONE);
        Due.due("move: NONE ahead of KIND and of BEYOND of n", x.move(3, 0, 0, 0, -1), NONE);
        Due.due("move: KIND ahead of BEYOND of n", x.move(0, 0, 1, 0, -1), KIND);
        Due.due("move: KIND ahead of BEYOND of i", x.move(0, 6, 1, 0, 1), KIND);
        Due.due("move: BEYOND of n", x.move(1, 0, 2, 0, -1), BEYOND);
        Due.due("judge: BEYOND of e ahead of NONE", x.judge(3, 10000), BEYOND);
        Due.due("judge: BEYOND of SHEET ahead of NONE", x.judge(4, 0), BEYOND);
        Due.due("judge: NONE", x.judge(3, 0), NONE);
        Due.due("even: BEYOND of what ahead of NONE", x.even(3, 2), BEYOND);
        Due.due("even: BEYOND of SHEET ahead of NONE", x.even(4, 0), BEYOND);
        Due.due("even: NONE", x.even(3, 0), NONE);
    }

    private static void refusedCallsChangeNothing() {
        Due.sentence("one that answers an ERROR changes nothing but what told() tells, or where told");
        Twins.refused("stone(-10000, 5)", BEYOND, x -> x.stone(-10000, 5));
        Twins.refused("stone(5, 100000)", BEYOND, x -> x.stone(5, 100000));
        Twins.refused("as(0, 2)", KIND, x -> x.as(0, 2));
        Twins.refused("turn(0, 2)", BEYOND, x -> x.turn(0, 2));
        Twins.refused("text(2)", BEYOND, x -> x.text(2));
        Twins.refused("treeIs(5, 4)", NONE, x -> x.treeIs(5, 4));
        Twins.refused("waver(0, 1, 100)", BEYOND, x -> x.waver(0, 1, 100));
        Twins.refused("body(99)", NONE, x -> x.body(99));
        Twins.refused("sheet(0, 8, -1)", STATE, x -> x.sheet(0, 8, -1));
        Twins.refused("sheet(0, 8, 25)", BEYOND, x -> x.sheet(0, 8, 25));
        Twins.refused("put(0, 5, 1)", BEYOND, x -> x.put(0, 5, 1));
        Twins.refused("put(3, 0, 1)", NONE, x -> x.put(3, 0, 1));
        Twins.refused("move(0, 0, 3, 0, 1)", NONE, x -> x.move(0, 0, 3, 0, 1));
        Twins.refused("move(0, 0, 1, 1, 1)", KIND, x -> x.move(0, 0, 1, 1, 1));
        Twins.refused("move(1, 0, 2, 1, 4)", BEYOND, x -> x.move(1, 0, 2, 1, 4));
        Twins.refused("count(8)", BEYOND, x -> x.count(8));
        Twins.refused("told(0)", BEYOND, x -> x.told(0));
    }

    private static void refusedCallsForFullRowsChangeNothing() {
        Due.sentence("one that answers an ERROR changes nothing but what told() tells, or where told");
        Twins.refused(Rich::fullOfSlips, "slip(1, 5, 5)", FULL, x -> x.slip(1, 5, 5));
        Twins.refused(Rich::fullOfTrees, "tree(1, 1, 100100)", FULL, x -> x.tree(1, 1, 100100));
        Twins.refused(() -> Rich.withTape(60), "feed('1', 1)", FULL, x -> x.feed('1', 1));
        Twins.refused(() -> Rich.withTape(59), "feed(\"+1\", 2)", FULL, x -> x.feed('1' << 8 | '+', 2));
        Twins.refused(Rich::fullOfNumbers, "tell(1)", FULL, x -> x.tell(1));
    }

    private static void onANewObject(String call, long error, ToLongFunction<NeedleLine> asked) {
        Twins.refused(NeedleLine::new, call, error, asked);
    }

    private static void refusedCallsOnANewObjectChangeNothing() {
        Due.sentence("one that answers an ERROR changes nothing but what told() tells, or where told");
        onANewObject("restore()", NONE, x -> x.restore());
        onANewObject("which(0)", NONE, x -> x.which(0));
        onANewObject("body(0)", NONE, x -> x.body(0));
        onANewObject("judge(0, 0)", NONE, x -> x.judge(0, 0));
        onANewObject("even(0, 0)", NONE, x -> x.even(0, 0));
        onANewObject("put(0, 0, 0)", NONE, x -> x.put(0, 0, 0));
        onANewObject("move(0, 0, 1, 0, 0)", NONE, x -> x.move(0, 0, 1, 0, 0));
        onANewObject("slipIs(0, 0)", BEYOND, x -> x.slipIs(0, 0));
        onANewObject("turn(0, 0)", BEYOND, x -> x.turn(0, 0));
        onANewObject("does(0, 0, 0)", BEYOND, x -> x.does(0, 0, 0));
        onANewObject("voice(0, 0, 0)", BEYOND, x -> x.voice(0, 0, 0));
        onANewObject("treeIs(0, 0)", BEYOND, x -> x.treeIs(0, 0));
        onANewObject("dig(0, 0, 0, 0)", BEYOND, x -> x.dig(0, 0, 0, 0));
    }

    /** THE TRACE is "of the latest voice()": that is where it is told. */
    private static void partedChangesTheTraceAlone() {
        Due.sentence("changes nothing but what told() tells, or where told");
        Twins.refused(BoundsOfErrorsTest::parted, "voice(5, 3, 9) again", PARTED, x -> x.voice(5, 3, 9));
        Twins.refused(BoundsOfErrorsTest::parted, "voice(0, 4, 9) behind it", BEYOND, x -> x.voice(0, 4, 9));
    }

    /** As Rich.open, and a VOICE of SLIP 5, whose m is 5, too, has been PARTED. */
    private static NeedleLine parted() {
        NeedleLine x = Rich.open();
        Due.due("voice(5, 3, 9)", x.voice(5, 3, 9), PARTED);
        return x;
    }

    private static void quotientsOfTheLine() {
        Due.sentence("Quotients are cut toward 0.");
        NeedleLine x = new NeedleLine();
        x.miles(3);
        int[] movings = {0, 33, 66, 100};
        for (int post = 0; post <= 3; post++) {
            Due.due("MOVING of POST " + post + " of 3", x.post(post, 4), movings[post]);
        }
        x.stone(5, 3 * 1760 + 5);
        Due.due("SIDE less -5 * 33 / 100", x.post(1, 2), 1);
        Due.due("ALONG less -5 * 33 / 100", x.post(1, 3), 1761);
        x.stone(-5, 3 * 1760 - 5);
        Due.due("SIDE less 5 * 33 / 100", x.post(1, 2), -1);
        Due.due("ALONG less 5 * 33 / 100", x.post(1, 3), 1759);
        int[] swamps = {0, 8, 9, 17, 18, 98, 99};
        for (int swamp : swamps) {
            x.mile(0, 2, swamp);
            Due.due("HOURS with SWAMP " + swamp, x.mileIs(0, 5), 8 + swamp / 9);
        }
        int[] halves = {-99, -2, -1, 0, 1, 2, 99};
        int[] due = {-49, -1, 0, 0, 0, 1, 49};
        for (int i = 0; i < halves.length; i++) {
            x.slip(6, 0, halves[i]);
            Due.due("half of " + halves[i], x.does(i, 0, 1), due[i]);
        }
    }

    private static void quotientsOfTexts() {
        Due.sentence("/ cut, % the rest that it leaves");
        String[] texts = {"7/2", "6/2+1", "(0-7)/2+9", "7/(0-2)+9", "(0-7)/(0-2)", "(0-7)%2+9", "7%(0-2)+9", "(0-1)/2+9"};
        int[] due = {3, 4, 6, 6, 3, 8, 10, 9};
        for (int i = 0; i < texts.length; i++) {
            NeedleLine x = new NeedleLine();
            Texts.told(x, 1, texts[i]);
            Due.due("HOURS by " + texts[i], x.mileIs(0, 5), due[i]);
        }
    }

    private static void quotientsOfVoices() {
        Due.sentence("Quotients are cut toward 0.");
        int[] xs = {-7, -6, -1, 0, 1, 6, 7};
        int[] halves = {-3, -3, 0, 0, 0, 3, 3};
        for (int i = 0; i < xs.length; i++) {
            Due.due("mends of " + xs[i] + " by 2", withSlip(0, 2).voice(0, 3, xs[i]), halves[i]);
            Due.due("mends of " + xs[i] + " by -2", withSlip(0, -2).voice(0, 3, xs[i]), -halves[i]);
            // COUNTED's notes of x: chains of half of x, that is -2 * half, less m.
            Due.due("notes of half of " + xs[i], withSlip(3, 0).voice(0, 2, xs[i]), -2 * halves[i]);
        }
    }
}
