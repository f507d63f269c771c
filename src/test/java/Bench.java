/** What the tests by hand have in common: the control's bits, and reals put in and looked at. */
abstract class Bench {
    static final int REGISTERS = 8;
    static final int MINUS = 0x8000;
    static final int ENDLESS = 0x7fff;
    static final int ONE = 16383;
    static final long HIGHEST_BIT = 1L << 63;
    static final long ALL_BITS = -1L;

    static final int INVALID = 1;
    static final int DENORMAL = 2;
    static final int DIVISION = 4;
    static final int OVER = 8;
    static final int UNDER = 16;
    static final int LOSS = 32;
    static final int MASKS = 0x3f;

    static final int NEAREST = 0;
    static final int DOWN = 1 << 10;
    static final int UP = 2 << 10;
    static final int CUT = 3 << 10;
    static final int VIEW = 1 << 12;
    static final int[] ROUNDINGS = {NEAREST, DOWN, UP, CUT};
    static final int[] SIGNS = {0, MINUS};

    final Due due = new Due();

    /** Runs these tests, and ends the program. */
    void runAll(Due.Call... tests) {
        for (Due.Call test : tests) {
            due.run(test);
        }
        due.end();
    }

    static RealSteps with(int control) {
        RealSteps x = new RealSteps();
        x.control(control);
        return x;
    }

    /** With register 0 set. */
    static RealSteps with(int control, int top, long fraction) {
        RealSteps x = with(control);
        put(x, 0, top, fraction);
        return x;
    }

    static void put(RealSteps x, int r, int top, long fraction) {
        x.set(r, top, (int) (fraction >>> 32), (int) fraction);
    }

    /** A whole number as ZERO or NORMAL. */
    static void putWhole(RealSteps x, int r, long number) {
        put(x, r, topOfWhole(number), fractionOfWhole(number));
    }

    static int topOfWhole(long number) {
        if (number == 0) {
            return 0;
        }
        int k = 63 - Long.numberOfLeadingZeros(Math.abs(number));
        return ONE + k + (number < 0 ? MINUS : 0);
    }

    static long fractionOfWhole(long number) {
        long size = Math.abs(number);
        return number == 0 ? 0 : size << Long.numberOfLeadingZeros(size);
    }

    static long fraction(RealSteps x, int r) {
        return (long) x.part(r, 1) << 32 | x.part(r, 2) & 0xffffffffL;
    }

    void holds(String what, RealSteps x, int r, int top, long fraction) {
        due.same(what + ", top", x.part(r, 0), top);
        due.same(what + ", fraction", fraction(x, r), fraction);
    }

    void holdsWhole(String what, RealSteps x, int r, long number) {
        holds(what, x, r, topOfWhole(number), fractionOfWhole(number));
    }

    void holdsIndefinite(String what, RealSteps x, int r) {
        holds(what, x, r, ENDLESS + MINUS, 3L << 62);
    }

    /** What is told of the last step, and whether it had an answer. */
    void tells(String what, RealSteps x, int told, int answer) {
        due.same(what + ", told(0)", x.told(0), told);
        due.same(what + ", told(1)", x.told(1), answer);
    }

    /** All registers, and all that is told. */
    static long[] state(RealSteps x) {
        long[] state = new long[2 * REGISTERS + 4];
        for (int r = 0; r < REGISTERS; r++) {
            state[2 * r] = x.part(r, 0);
            state[2 * r + 1] = fraction(x, r);
        }
        for (int what = 0; what < 4; what++) {
            state[2 * REGISTERS + what] = x.told(what);
        }
        return state;
    }

    void sameState(String what, RealSteps x, long[] want) {
        long[] got = state(x);
        for (int i = 0; i < 2 * REGISTERS; i++) {
            due.same(what + ", register " + i / 2 + (i % 2 == 0 ? ", top" : ", fraction"), got[i], want[i]);
        }
        for (int i = 0; i < 4; i++) {
            due.same(what + ", told(" + i + ")", got[2 * REGISTERS + i], want[2 * REGISTERS + i]);
        }
    }

    /** All registers but those named hold what they held. */
    void sameOthers(String what, RealSteps x, long[] want, int... changed) {
        for (int r = 0; r < REGISTERS; r++) {
            boolean named = false;
            for (int one : changed) {
                named |= one == r;
            }
            if (!named) {
                holds(what + ", register " + r, x, r, (int) want[2 * r], want[2 * r + 1]);
            }
        }
    }
}
