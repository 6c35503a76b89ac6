/** The sentences on VOICES and THE TRACE (Terms 4, promises 33 and 34), each with its boundary cases. */
public final class BoundsOfVoicesTest {
    private static final long BEYOND = -1000000001;
    private static final long NONE = -1000000002;
    private static final long PARTED = -1000000006;

    private static final int MIN = Integer.MIN_VALUE;
    private static final int MAX = Integer.MAX_VALUE;

    public static void main(String[] args) {
        sightsWrap();
        chainsWrap();
        notesWrap();
        mendsWrap();
        notesOfCountedHalve();
        notesOfOffset();
        numbersOfTheFirstAndTheLastSlip();
        theLeastAndTheMostOfM();
        partedIfNothingDivides();
        partedIsAllThatIsAnswered();
        bodyOfTheKindOrOfTheNextAbove();
        traceAsTheyBegan();
        traceOfTheLatestVoice();
        traceOfOneThatIsParted();
        theLongestTrace();
        promise33();
        promise33OnOrOff();
        promise34();
        promise34NoneSuch();
        Due.end();
    }

    /** A SLIP of a KIND whose number is k. */
    private static NeedleLine with(int kind, int k, int m) {
        NeedleLine x = new NeedleLine();
        for (int i = 0; i < k; i++) {
            x.slip(0, 0, 0);
        }
        x.slip(kind, 0, m);
        return x;
    }

    private static void voice(NeedleLine line, int k, int voice, int x, long due) {
        Due.due("KIND " + line.slipIs(k, 0) + ", m " + line.slipIs(k, 3) + ": voice(" + k + ", " + voice + ", " + x + ")",
                line.voice(k, voice, x), due);
    }

    private static void sightsWrap() {
        Due.sentence("SLIP: 10 sights: x + k.");
        voice(with(0, 7, 0), 7, 0, MAX, MIN + 6);
        voice(with(0, 7, 0), 7, 0, MAX - 7, MAX);
        voice(with(0, 7, 0), 7, 0, MIN, MIN + 7);
        Due.sentence("NEEDLE: 20 sights: super.sights(x) - 4.");
        voice(with(1, 1, 0), 1, 0, MIN, MAX - 2);
        voice(with(1, 1, 0), 1, 0, MIN + 3, MIN);
        Due.sentence("HANDED: 50 sights: super.sights(x) * 3.");
        voice(with(4, 0, 0), 0, 0, MAX, (MAX - 4) * 3);
        voice(with(4, 0, 0), 0, 0, MIN + 4, MIN);
    }

    private static void chainsWrap() {
        Due.sentence("11 chains: sights(x) * 2.");
        voice(with(0, 0, 0), 0, 1, MAX, -2);
        voice(with(0, 0, 0), 0, 1, MIN, 0);
        voice(with(0, 0, 0), 0, 1, 1 << 30, MIN);
        Due.sentence("CHAIN: 30 chains: 0 - super.chains(x).");
        voice(with(2, 0, 0), 0, 1, 1 << 30, MIN);
        voice(with(2, 0, 0), 0, 1, -(1 << 30), MIN);
        voice(with(2, 0, 0), 0, 1, (1 << 30) + 1, MAX - 1);
        Due.sentence("41 chains: super.chains(x) + k.");
        // sights 1 - (1 << 30), chains of SLIP MIN + 2, of CHAIN MAX - 1.
        voice(with(3, 1, 0), 1, 1, -(1 << 30), MAX);
        voice(with(3, 2, 0), 2, 1, -(1 << 30) - 1, MIN);
        voice(with(3, 3, 0), 3, 1, -(1 << 30) - 2, MIN + 1);
    }

    private static void notesWrap() {
        Due.sentence("12 notes: chains(x) - m.");
        voice(with(0, 0, 1), 0, 2, 1 << 30, MAX);
        voice(with(0, 0, -1), 0, 2, (1 << 30) - 1, MAX);
        voice(with(0, 0, -2), 0, 2, (1 << 30) - 1, MIN);
        voice(with(0, 0, 0), 0, 2, 1 << 30, MIN);
    }

    private static void mendsWrap() {
        Due.sentence("13 mends: x by (m - k), cut");
        voice(with(0, 0, -1), 0, 3, MIN, MIN);
        voice(with(0, 1, 0), 1, 3, MIN, MIN);
        voice(with(0, 0, -1), 0, 3, MAX, -MAX);
        voice(with(0, 0, 1), 0, 3, MIN, MIN);
        voice(with(0, 0, 2), 0, 3, MIN, MIN / 2);
        voice(with(0, 0, 2), 0, 3, MIN + 1, MIN / 2 + 1);
        voice(with(0, 0, 99), 0, 3, 98, 0);
        voice(with(0, 0, 99), 0, 3, 99, 1);
        voice(with(0, 0, -99), 0, 3, 98, 0);
        voice(with(0, 0, -99), 0, 3, -99, 1);
        Due.sentence("21 mends: super.mends(x) + chains(1).");
        // chains(1) is (1 + k - 4) * 2.
        voice(with(1, 4, 5), 4, 3, MAX, MIN + 1);
        voice(with(1, 0, 1), 0, 3, MIN, MAX - 5);
        Due.sentence("51 mends: super.mends(x) - notes(0).");
        // chains(1) is (1 - 4) * 3 * 2 = -18, notes(0) is (0 - 4) * 3 * 2 - m = -25.
        voice(with(4, 0, 1), 0, 3, MAX, MIN + 6);
        voice(with(4, 0, 1), 0, 3, MIN, MIN + 7);
    }

    private static void notesOfCountedHalve() {
        Due.sentence("COUNTED: 40 notes: super.notes(x / 2).");
        int[] xs = {-3, -2, -1, 0, 1, 2, 3, MIN, MAX};
        int[] halves = {-1, -1, 0, 0, 0, 1, 1, MIN / 2, MAX / 2};
        for (int i = 0; i < xs.length; i++) {
            voice(with(3, 0, 0), 0, 2, xs[i], -2 * halves[i]);
        }
    }

    private static void notesOfOffset() {
        Due.sentence("OFFSET: 60 notes: super.notes(x) ^ m.");
        voice(with(5, 0, 5), 0, 2, 0, -5 ^ 5);
        voice(with(5, 0, -99), 0, 2, 0, 99 ^ -99);
        voice(with(5, 0, 0), 0, 2, MIN, 0);
        voice(with(5, 0, 1), 0, 2, 1 << 30, MAX ^ 1);
        Due.sentence("MADE: 70 notes: super.notes(x + 1). 71 sights: 6.");
        for (int x : new int[] {MIN, -1, 0, MAX}) {
            voice(with(6, 0, 3), 0, 0, x, 6);
            voice(with(6, 0, 3), 0, 1, x, 12);
            voice(with(6, 0, 3), 0, 2, x, 9 ^ 3);
        }
    }

    private static void numbersOfTheFirstAndTheLastSlip() {
        Due.sentence("k is its number, m as told");
        for (int k : new int[] {0, 7}) {
            voice(with(0, k, 50), k, 0, 1, 1 + k);
            voice(with(0, k, 50), k, 3, 1000, 1000 / (50 - k));
            voice(with(3, k, 50), k, 1, 1, -2 * (1 + k) + k);
        }
    }

    private static void theLeastAndTheMostOfM() {
        Due.sentence("k is its number, m as told");
        for (int m : new int[] {-99, 99}) {
            voice(with(0, 0, m), 0, 2, 10, 20 - m);
            voice(with(0, 0, m), 0, 3, 990, 990 / m);
            voice(with(5, 0, m), 0, 2, 10, 20 - m ^ m);
        }
    }

    private static void partedIfNothingDivides() {
        Due.sentence("x by (m - k), cut (PARTED if that is 0;");
        for (int k : new int[] {0, 1, 7}) {
            for (int kind = 0; kind < 7; kind++) {
                voice(with(kind, k, k), k, 3, 100, PARTED);
                voice(with(kind, k, k), k, 3, 0, PARTED);
            }
            voice(with(0, k, k - 1), k, 3, 100, -100);
            voice(with(0, k, k + 1), k, 3, 100, 100);
        }
        NeedleLine x = with(0, 0, 0);
        x.voice(0, 3, 1);
        Due.due("told(6)", x.told(6), 1);
    }

    private static void partedIsAllThatIsAnswered() {
        Due.sentence("(PARTED if that is 0; that is all that voice() answers then)");
        voice(with(1, 3, 3), 3, 3, 5, PARTED);
        voice(with(4, 3, 3), 3, 3, 5, PARTED);
        NeedleLine x = with(4, 3, 3);
        voice(x, 3, 2, 0, -6 - 3);
        voice(x, 3, 3, 0, PARTED);
        voice(x, 3, 2, 0, -6 - 3);
    }

    private static void trace(NeedleLine x, int... due) {
        Due.due("count(6)", x.count(6), due.length);
        for (int i = 0; i < due.length; i++) {
            Due.due("body(" + i + ")", x.body(i), due[i]);
        }
    }

    private static void traceOf(int kind, int voice, int... due) {
        NeedleLine x = with(kind, 2, 7);
        x.voice(2, voice, 5);
        trace(x, due);
    }

    private static void bodyOfTheKindOrOfTheNextAbove() {
        Due.sentence("sights(..) is the BODY of its KIND, or of the next KIND above that has one; super.sights(..) that from the "
                + "KIND above the BODY's on.");
        traceOf(0, 0, 10);
        traceOf(1, 0, 20, 10);
        traceOf(2, 0, 10);
        traceOf(3, 0, 10);
        traceOf(4, 0, 50, 20, 10);
        traceOf(5, 0, 10);
        traceOf(6, 0, 71);
        traceOf(4, 1, 11, 50, 20, 10);
        traceOf(3, 2, 40, 12, 41, 30, 11, 10);
        traceOf(6, 2, 70, 60, 12, 11, 71);
        traceOf(6, 3, 13);
    }

    private static void traceAsTheyBegan() {
        Due.sentence("as they began (what stands left is worked out first)");
        traceOf(1, 3, 21, 13, 11, 20, 10);
        traceOf(4, 3, 51, 21, 13, 11, 50, 20, 10, 12, 11, 50, 20, 10);
    }

    private static void traceOfTheLatestVoice() {
        Due.sentence("THE TRACE: the numbers of BODIES of the latest voice()");
        NeedleLine x = with(4, 2, 7);
        x.voice(2, 3, 5);
        x.voice(2, 0, 5);
        trace(x, 50, 20, 10);
        x.voice(0, 0, 5);
        trace(x, 10);
        Due.due("what the one ahead left is gone", x.body(1), NONE);
        x.turn(2, 0);
        x.miles(1);
        x.image();
        x.restore();
        trace(x, 10);
    }

    private static void traceOfOneThatIsParted() {
        Due.sentence("THE TRACE: the numbers of BODIES of the latest voice(), as they began");
        NeedleLine x = with(0, 0, 0);
        x.voice(0, 1, 5);
        x.voice(0, 3, 5);
        trace(x, 13);
        NeedleLine needle = with(1, 2, 2);
        needle.voice(2, 3, 5);
        trace(needle, 21, 13);
        NeedleLine handed = with(4, 2, 2);
        handed.voice(2, 3, 5);
        trace(handed, 51, 21, 13);
    }

    /** No BODY leads to so many others that THE TRACE would be full: HANDED's mends lead to most. */
    private static void theLongestTrace() {
        Due.sentence("the first 30.");
        int most = 0;
        for (int kind = 0; kind < 7; kind++) {
            for (int voice = 0; voice < 4; voice++) {
                NeedleLine x = with(kind, 0, 1);
                x.voice(0, voice, 5);
                most = Math.max(most, x.count(6));
                Due.due("behind the last BODY", x.body(x.count(6)), NONE);
            }
        }
        Due.due("the most BODIES of all VOICES", most, 12);
    }

    private static void promise33() {
        Due.sentence("A VOICE of a SLIP. BEYOND. PARTED.");
        Twins.bounds("voice(*, 0, 5) of seven", 0, 6, (x, v) -> x.voice(v, 0, 5));
        Twins.bounds(Rich::fullOfSlips, "voice(*, 0, 5) of eight", 0, 7, (x, v) -> x.voice(v, 0, 5));
        Twins.bounds("voice(4, *, 5)", 0, 3, (x, v) -> x.voice(4, v, 5));
        Due.due("of none", new NeedleLine().voice(0, 0, 0), BEYOND);
    }

    private static void promise33OnOrOff() {
        Due.sentence("A VOICE of a SLIP.");
        NeedleLine x = with(0, 0, 4);
        x.turn(0, 0);
        voice(x, 0, 0, 5, 5);
        voice(x, 0, 2, 5, 6);
    }

    private static void promise34() {
        Due.sentence("THE TRACE's i-th. NONE: there is none such.");
        NeedleLine x = with(4, 0, 1);
        x.voice(0, 3, 5);
        Due.due("body(0)", x.body(0), 51);
        Due.due("body(11), the last", x.body(11), 10);
        for (int i : new int[] {-1, 12, 29, 30, 31, MIN, MAX}) {
            Due.due("body(" + i + ")", x.body(i), NONE);
            Twins.refused("body(" + i + ")", NONE, line -> line.body(i));
        }
        Due.due("told(2)", x.told(2), 7);
    }

    private static void promise34NoneSuch() {
        Due.sentence("NONE: there is none such.");
        for (int i : new int[] {-1, 0, 1, MIN, MAX}) {
            Twins.refused(NeedleLine::new, "body(" + i + ") of an empty TRACE", NONE, x -> x.body(i));
        }
        NeedleLine x = with(0, 0, 0);
        x.voice(0, 4, 0);
        Due.due("body(0) behind a voice() that is refused", x.body(0), NONE);
    }
}
