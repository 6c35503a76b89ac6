/** Promises 33 and 34. */
public final class VoicesTest {
    private static final int BEYOND = -1000000001;
    private static final int NONE = -1000000002;
    private static final int PARTED = -1000000006;

    public static void main(String[] args) {
        promise33VoicesOfEachKind();
        promise33IntsWrap();
        promise33Errors();
        promise34Bodies();
        promise34BodiesOfParted();
        promise34BeyondLeavesTheTrace();
        Due.end();
    }

    /** A SLIP of a KIND whose number is k. */
    private static NeedleLine with(int kind, int k, int m) {
        NeedleLine x = new NeedleLine();
        for (int i = 0; i < k; i++) {
            x.slip(0, 0, 0);
        }
        x.slip(kind, 0, m);
        return x;
    }

    private static void voices(int kind, int k, int m, int x, int... due) {
        NeedleLine line = with(kind, k, m);
        for (int voice = 0; voice < 4; voice++) {
            Due.due("KIND " + kind + ": voice(" + k + ", " + voice + ", " + x + ")", line.voice(k, voice, x), due[voice]);
        }
    }

    private static void promise33VoicesOfEachKind() {
        // sights x + 2; chains twice that; notes less 5; mends x by 3.
        voices(0, 2, 5, 10, 12, 24, 19, 3);
        voices(0, 2, 5, -10, -8, -16, -21, -3);
        // sights x + 2 - 4; mends x by 3, and chains(1) = -2.
        voices(1, 2, 5, 10, 8, 16, 11, 1);
        voices(2, 2, 5, 10, 12, -24, -29, 3);
        // chains 0 - (x + 2) * 2, and 2; notes of half of x.
        voices(3, 2, 5, 10, 12, -22, -17, 3);
        voices(3, 2, 5, -11, -9, 20, 3, -3);
        // sights (x - 2) * 3; mends 3, and chains(1) = -6, less notes(0) = -12 - 5.
        voices(4, 2, 5, 10, 24, 48, 43, 14);
        voices(5, 2, 5, 10, 12, 24, 19 ^ 5, 3);
        // sights 6; chains 12; notes (12 - 5) ^ 5, whatever x.
        voices(6, 2, 5, 10, 6, 12, 2, 3);
        voices(0, 0, 0, 0, 0, 0, 0, PARTED);
    }

    private static void promise33IntsWrap() {
        voices(0, 1, 0, Integer.MIN_VALUE, Integer.MIN_VALUE + 1, 2, 2, Integer.MIN_VALUE);
        voices(0, 7, -99, Integer.MAX_VALUE, Integer.MIN_VALUE + 6, 12, 111, Integer.MAX_VALUE / -106);
        voices(6, 1, 1, Integer.MAX_VALUE, 6, 12, 11 ^ 1, PARTED);
        NeedleLine x = with(0, 0, 1);
        Due.due("a VOICE like an ERROR", x.voice(0, 0, -1000000001), -1000000001);
        Due.due("is none", x.told(1), 0);
    }

    private static void promise33Errors() {
        NeedleLine x = with(4, 3, 3);
        Due.due("voice(4, 0, 0)", x.voice(4, 0, 0), BEYOND);
        Due.due("voice(-1, 0, 0)", x.voice(-1, 0, 0), BEYOND);
        Due.due("voice(3, 4, 0)", x.voice(3, 4, 0), BEYOND);
        Due.due("voice(3, -1, 0)", x.voice(3, -1, 0), BEYOND);
        Due.due("voice(3, 3, 0) with m as its number", x.voice(3, 3, 0), PARTED);
        Due.due("voice(3, 2, 0): notes divide by nothing", x.voice(3, 2, 0), -6 - 3);
        Due.due("told(1)", x.told(1), 4);
        Due.due("told(6)", x.told(6), 1);
        x.turn(3, 0);
        Due.due("voice of one that is off", x.voice(3, 2, 0), -9);
    }

    private static void bodies(int kind, int voice, int... due) {
        NeedleLine x = with(kind, 1, 4);
        x.voice(1, voice, 9);
        trace("KIND " + kind + ", VOICE " + voice, x, due);
    }

    private static void trace(String of, NeedleLine x, int... due) {
        Due.due(of + ": count(6)", x.count(6), due.length);
        for (int i = 0; i < due.length; i++) {
            Due.due(of + ": body(" + i + ")", x.body(i), due[i]);
        }
        Due.due(of + ": one more body", x.body(due.length), NONE);
        Due.due(of + ": body(-1)", x.body(-1), NONE);
    }

    private static void promise34Bodies() {
        bodies(0, 0, 10);
        bodies(0, 1, 11, 10);
        bodies(0, 2, 12, 11, 10);
        bodies(0, 3, 13);
        bodies(1, 0, 20, 10);
        bodies(1, 1, 11, 20, 10);
        bodies(1, 2, 12, 11, 20, 10);
        bodies(1, 3, 21, 13, 11, 20, 10);
        bodies(2, 0, 10);
        bodies(2, 1, 30, 11, 10);
        bodies(2, 2, 12, 30, 11, 10);
        bodies(2, 3, 13);
        bodies(3, 0, 10);
        bodies(3, 1, 41, 30, 11, 10);
        bodies(3, 2, 40, 12, 41, 30, 11, 10);
        bodies(3, 3, 13);
        bodies(4, 0, 50, 20, 10);
        bodies(4, 1, 11, 50, 20, 10);
        bodies(4, 2, 12, 11, 50, 20, 10);
        bodies(4, 3, 51, 21, 13, 11, 50, 20, 10, 12, 11, 50, 20, 10);
        bodies(5, 0, 10);
        bodies(5, 1, 11, 10);
        bodies(5, 2, 60, 12, 11, 10);
        bodies(5, 3, 13);
        bodies(6, 0, 71);
        bodies(6, 1, 11, 71);
        bodies(6, 2, 70, 60, 12, 11, 71);
        bodies(6, 3, 13);
    }

    /** The BODIES that began, up to the one that is PARTED: no other begins then. */
    private static void parted(int kind, int... due) {
        NeedleLine x = with(kind, 2, 2);
        x.voice(2, 1, 0);
        Due.due("KIND " + kind + ": voice(2, 3, 0)", x.voice(2, 3, 0), PARTED);
        trace("KIND " + kind + ", PARTED", x, due);
    }

    private static void promise34BodiesOfParted() {
        parted(0, 13);
        parted(1, 21, 13);
        parted(2, 13);
        parted(3, 13);
        parted(4, 51, 21, 13);
        parted(5, 13);
        parted(6, 13);
        NeedleLine x = with(4, 2, 2);
        x.voice(2, 3, 0);
        x.voice(2, 0, 0);
        trace("the VOICE after PARTED", x, 50, 20, 10);
        Due.due("told(6)", x.told(6), 1);
    }

    private static void promise34BeyondLeavesTheTrace() {
        NeedleLine x = with(4, 2, 2);
        Due.due("body(0) ahead of all", x.body(0), NONE);
        x.voice(2, 1, 0);
        x.voice(3, 0, 0);
        x.voice(2, 4, 0);
        trace("after BEYOND", x, 11, 50, 20, 10);
        x.voice(2, 3, 0);
        x.voice(-1, 3, 0);
        trace("BEYOND after PARTED", x, 51, 21, 13);
        x.voice(0, 0, 0);
        trace("of the latest", x, 10);
    }
}
