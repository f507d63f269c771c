/** The promises one by one: ordinary inputs, the edges that the document names, and wrong inputs. */
public final class PromisesTest extends Bench {
    private static final int HIGHEST = 0x80000000;
    private static final int ALL_MASKED = 0x03ff;

    public static void main(String[] args) {
        new PromisesTest().run();
    }

    private void run() {
        runAll(
                this::newObject,
                this::control,
                this::set,
                this::part,
                this::turn,
                this::constant,
                this::whole,
                this::wholeAtFirst,
                this::scale,
                this::scaleOverAndUnder,
                this::extract,
                this::remainder,
                this::remainderOfWholeNumbers,
                this::remainderAtFirst,
                this::remainderPartial,
                this::compare,
                this::compareInfinite,
                this::test,
                this::examine,
                this::told,
                this::throwingChangesNothing);
    }

    private void holds(String what, RealSteps x, int r, int top, int high, int low) {
        due.same(what + ", top", x.part(r, 0), top);
        due.same(what + ", high", x.part(r, 1), high);
        due.same(what + ", low", x.part(r, 2), low);
    }

    private static RealSteps with(int control, int top, int high, int low) {
        RealSteps x = with(control);
        x.set(0, top, high, low);
        return x;
    }

    // Promise 1
    private void newObject() {
        RealSteps x = new RealSteps();
        for (int r = 0; r < 8; r++) {
            holds("a new object's register " + r, x, r, 0, 0, 0);
        }
        for (int what = 0; what < 4; what++) {
            due.same("a new object's told(" + what + ")", x.told(what), 0);
        }
        x.set(0, 16383, 0xc0000000, 0);
        due.same("LOSS at the first control", x.whole(0, 1), LOSS);
        holds("1.5 to the nearest at the first control", x, 1, 16384, HIGHEST, 0);
        x.set(0, 32767, HIGHEST, 0);
        due.same("one infinite number at the first control", x.compare(0, 1), 2);
        x.set(0, 0, 0, 1);
        due.same("DENORMAL masked at the first control", x.test(0), 1);
        due.same("DIVISION masked at the first control", x.extract(7, 2, 3), DIVISION);
        due.same("an answer then", x.told(1), 1);
        x.set(0, 32766, HIGHEST, 0);
        putWhole(x, 4, 100);
        due.same("OVER masked at the first control", x.scale(0, 4, 5), OVER | LOSS);
        holds("infinite then", x, 5, 32767, HIGHEST, 0);
        x.set(0, 1, HIGHEST, 0);
        putWhole(x, 4, -1);
        due.same("UNDER masked at the first control", x.scale(0, 4, 5), 0);
        holds("the denormal one then", x, 5, 0, 0x40000000, 0);
    }

    // Promise 2
    private void control() {
        RealSteps x = with(ALL_MASKED, 16383, 0xc0000000, 0);
        x.control(0xffff);
        x.whole(0, 1);
        holds("1.5 towards 0", x, 1, 16383, HIGHEST, 0);
        x.control(0);
        x.whole(0, 1);
        holds("1.5 to the nearest", x, 1, 16384, HIGHEST, 0);
        x.control(0xf3c0);
        x.whole(0, 1);
        holds("1.5 to the nearest, other bits set", x, 1, 16384, HIGHEST, 0);
        x.control(UP);
        due.throwsArgument("control(0x10000)", () -> x.control(0x10000));
        due.throwsArgument("control(-1)", () -> x.control(-1));
        due.throwsArgument("control(least)", () -> x.control(Integer.MIN_VALUE));
        due.throwsArgument("control(greatest)", () -> x.control(Integer.MAX_VALUE));
        x.set(0, 16383, HIGHEST, 1);
        x.whole(0, 1);
        holds("the control is as it was", x, 1, 16384, HIGHEST, 0);
    }

    // Promise 3
    private void set() {
        RealSteps x = new RealSteps();
        x.set(0, 0xffff, -1, -1);
        holds("all bits", x, 0, 0xffff, -1, -1);
        x.set(7, 0, 0, HIGHEST);
        holds("a low part below 0 leaves the high one", x, 7, 0, 0, HIGHEST);
        x.set(7, 1, HIGHEST, 0);
        holds("high part", x, 7, 1, HIGHEST, 0);
        holds("another register", x, 0, 0xffff, -1, -1);
        due.throwsIndex("set(-1)", () -> x.set(-1, 0, 0, 0));
        due.throwsIndex("set(8)", () -> x.set(8, 0, 0, 0));
        due.throwsIndex("set(8, 65536)", () -> x.set(8, 65536, 0, 0));
        due.throwsArgument("set(7, 65536)", () -> x.set(7, 65536, 0, 0));
        due.throwsArgument("set(7, -1)", () -> x.set(7, -1, 0, 0));
        holds("after what throws", x, 7, 1, HIGHEST, 0);
    }

    // Promise 4
    private void part() {
        RealSteps x = with(ALL_MASKED, 0x9234, 0x12345678, 0x9abcdef0);
        holds("three parts", x, 0, 0x9234, 0x12345678, 0x9abcdef0);
        due.throwsIndex("part(8, 0)", () -> x.part(8, 0));
        due.throwsIndex("part(-1, 3)", () -> x.part(-1, 3));
        due.throwsArgument("part(0, 3)", () -> x.part(0, 3));
        due.throwsArgument("part(0, -1)", () -> x.part(0, -1));
    }

    // Promise 5
    private void turn() {
        RealSteps x = with(ALL_MASKED, 0x1234, 5, 6);
        x.turn(0, false);
        holds("turned", x, 0, 0x9234, 5, 6);
        x.turn(0, false);
        holds("turned twice", x, 0, 0x1234, 5, 6);
        x.turn(0, true);
        holds("away without a sign", x, 0, 0x1234, 5, 6);
        x.turn(0, false);
        x.turn(0, true);
        holds("away with a sign", x, 0, 0x1234, 5, 6);
        x.set(1, 0xffff, 1, 1);
        x.turn(1, true);
        holds("no number's sign away", x, 1, 0x7fff, 1, 1);
        due.throwsIndex("turn(8)", () -> x.turn(8, true));
        due.throwsIndex("turn(-1)", () -> x.turn(-1, false));
    }

    // Promise 6
    private void constant() {
        RealSteps x = with(CUT);
        int[][] parts = {
            {0, 0, 0},
            {16383, HIGHEST, 0},
            {16384, 0xd49a784b, 0xcd1b8afe},
            {16383, 0xb8aa3b29, 0x5c17f0bc},
            {16384, 0xc90fdaa2, 0x2168c235},
            {16381, 0x9a209a84, 0xfbcff799},
            {16382, 0xb17217f7, 0xd1cf79ac}
        };
        for (int rounding = 0; rounding < 4; rounding++) {
            x.control(rounding << 10);
            for (int which = 0; which < parts.length; which++) {
                x.set(which, 0xffff, 1, 1);
                x.constant(which, which);
                holds("constant " + which, x, which, parts[which][0], parts[which][1], parts[which][2]);
            }
        }
        due.throwsIndex("constant(0, 8)", () -> x.constant(0, 8));
        due.throwsIndex("constant(7, -1)", () -> x.constant(7, -1));
        due.throwsArgument("constant(7, 0)", () -> x.constant(7, 0));
        due.throwsArgument("constant(-1, 0)", () -> x.constant(-1, 0));
        holds("after what throws", x, 0, 0, 0, 0);
    }

    // Promise 7

    /** Half of odd is an odd number of halves; the rows are nearest, down, up, towards 0. */
    private void wholeOfHalves(int halves, int... want) {
        for (int rounding = 0; rounding < 4; rounding++) {
            RealSteps x = with(ALL_MASKED | rounding << 10);
            RealSteps y = new RealSteps();
            putWhole(x, 0, halves);
            x.set(0, x.part(0, 0) - 1, x.part(0, 1), 0);
            putWhole(y, 0, want[rounding]);
            String what = halves + " halves, rounding " + rounding;
            due.same(what, x.whole(0, 1), LOSS);
            int top = want[rounding] == 0 && halves < 0 ? MINUS : y.part(0, 0);
            holds(what, x, 1, top, y.part(0, 1), 0);
        }
    }

    private void whole() {
        wholeOfHalves(1, 0, 0, 1, 0);
        wholeOfHalves(-1, 0, -1, 0, 0);
        wholeOfHalves(3, 2, 1, 2, 1);
        wholeOfHalves(-3, -2, -2, -1, -1);
        wholeOfHalves(5, 2, 2, 3, 2);
        wholeOfHalves(-5, -2, -3, -2, -2);
        wholeOfHalves(7, 4, 3, 4, 3);

        RealSteps x = with(ALL_MASKED, 16382, HIGHEST, 1);
        due.same("just over a half", x.whole(0, 0), LOSS);
        holds("just over a half", x, 0, 16383, HIGHEST, 0);
        x.set(0, 16381, -1, -1);
        due.same("just below a half", x.whole(0, 1), LOSS);
        holds("just below a half", x, 1, 0, 0, 0);
        x.set(0, 16446 - 1, -1, -1);
        due.same("2^63 - 1/2", x.whole(0, 1), LOSS);
        holds("2^63 - 1/2", x, 1, 16446, HIGHEST, 0);
        x.set(0, 16446, -1, -1);
        due.same("2^64 - 1", x.whole(0, 1), 0);
        holds("2^64 - 1", x, 1, 16446, -1, -1);
        x.set(0, 16400 + MINUS, 0, 1);
        due.same("an unnormal one below 1", x.whole(0, 1), LOSS);
        holds("an unnormal one below 1", x, 1, MINUS, 0, 0);
        x.set(0, 16446, 0, 3);
        due.same("an unnormal 3", x.whole(0, 1), 0);
        holds("an unnormal 3", x, 1, 16384, 0xc0000000, 0);
        x.set(0, 32766 + MINUS, 0, 1);
        due.same("a great unnormal one", x.whole(0, 1), 0);
        holds("a great unnormal one", x, 1, 32703 + MINUS, HIGHEST, 0);
        x.set(0, 20000 + MINUS, 0, 0);
        due.same("an unnormal 0", x.whole(0, 1), 0);
        holds("an unnormal 0", x, 1, MINUS, 0, 0);
        x.control(UP | ALL_MASKED);
        x.set(0, 0, 0, 1);
        due.same("the least one up", x.whole(0, 1), DENORMAL | LOSS);
        holds("the least one up", x, 1, 16383, HIGHEST, 0);
        x.control(0);
        x.set(0, 16383, 0xc0000000, 0);
        due.same("LOSS without its mask", x.whole(0, 1), LOSS);
        holds("LOSS without its mask", x, 1, 16384, HIGHEST, 0);
        due.throwsIndex("whole(8, 0)", () -> x.whole(8, 0));
        due.throwsIndex("whole(0, -1)", () -> x.whole(0, -1));
    }

    private void wholeAtFirst() {
        RealSteps x = with(ALL_MASKED, 0xffff, 0, 0);
        due.same("an infinite one", x.whole(0, 1), 0);
        holds("an infinite one is itself", x, 1, 0xffff, 0, 0);
        x.set(0, 0xffff, 0, 7);
        due.same("no number", x.whole(0, 1), INVALID);
        holds("no number is itself", x, 1, 0xffff, 0, 7);
        x.control(ALL_MASKED & ~INVALID);
        x.set(0, 0x7fff, 0, 9);
        due.same("no number, not masked", x.whole(0, 1), INVALID);
        due.same("no answer", x.told(1), 0);
        holds("no register changes", x, 1, 0xffff, 0, 7);
        x.control(ALL_MASKED & ~DENORMAL);
        x.set(0, 0, 0, 1);
        due.same("a denormal one, not masked", x.whole(0, 1), DENORMAL);
        due.same("no answer", x.told(1), 0);
        holds("no register changes", x, 1, 0xffff, 0, 7);
    }

    // Promise 8

    private void scale() {
        RealSteps x = new RealSteps();
        putWhole(x, 0, 3);
        x.constant(4, 1);
        due.same("3 by pi", x.scale(0, 1, 2), 0);
        holds("3 times 2^3", x, 2, 16387, 0xc0000000, 0);
        x.turn(1, false);
        due.same("3 by -pi", x.scale(0, 1, 0), 0);
        holds("3 times 2^-3", x, 0, 16381, 0xc0000000, 0);
        x.set(1, 16382 + MINUS, -1, -1);
        due.same("by less than 1", x.scale(0, 1, 2), 0);
        holds("as it was", x, 2, 16381, 0xc0000000, 0);
        x.set(1, 16450, 0, 1);
        due.same("by an unnormal 16", x.scale(0, 1, 2), 0);
        holds("times 2^16", x, 2, 16397, 0xc0000000, 0);
        x.set(1, 32766, 0, 0);
        due.same("by an unnormal 0", x.scale(0, 1, 2), 0);
        holds("as it was", x, 2, 16381, 0xc0000000, 0);
        x.set(1, 16459, 0, 2);
        due.same("by an unnormal 2^14", x.scale(0, 1, 2), INVALID);
        holds("indefinite", x, 2, 0xffff, 0xc0000000, 0);
        x.set(1, 16459, 0, 1);
        due.same("by an unnormal 2^13", x.scale(0, 1, 2), 0);
        holds("times 2^8192", x, 2, 16381 + 8192, 0xc0000000, 0);
        x.set(0, MINUS, 0, 0);
        due.same("-0 by 2^13", x.scale(0, 1, 2), 0);
        holds("-0", x, 2, MINUS, 0, 0);
        x.set(0, 5, 0, 0);
        due.same("an unnormal 0", x.scale(0, 1, 2), 0);
        holds("0", x, 2, 0, 0, 0);
        x.set(0, 0xffff, 0, 0);
        due.same("an infinite one", x.scale(0, 1, 2), 0);
        holds("an infinite one is itself", x, 2, 0xffff, 0, 0);
        x.set(1, 0x7fff, HIGHEST, 0);
        due.same("by an infinite one", x.scale(0, 1, 2), INVALID);
        holds("indefinite", x, 2, 0xffff, 0xc0000000, 0);
        x.control(ALL_MASKED & ~INVALID);
        due.same("by an infinite one, not masked", x.scale(0, 1, 0), INVALID);
        holds("no register changes", x, 0, 0xffff, 0, 0);
        x.control(ALL_MASKED & ~DENORMAL);
        x.set(1, 0, 0, 1);
        due.same("by a denormal one, not masked", x.scale(0, 1, 2), DENORMAL);
        due.same("no answer", x.told(1), 0);
        x.constant(4, 0);
        x.set(1, 0x7fff, 5, 5);
        x.control(ALL_MASKED);
        due.same("no number by pi", x.scale(1, 0, 2), INVALID);
        holds("no number, the first", x, 2, 0x7fff, 5, 5);
        due.same("pi by no number", x.scale(0, 1, 3), INVALID);
        holds("no number, the second", x, 3, 0x7fff, 5, 5);
        due.throwsIndex("scale(8, 0, 0)", () -> x.scale(8, 0, 0));
        due.throwsIndex("scale(0, -1, 0)", () -> x.scale(0, -1, 0));
        due.throwsIndex("scale(0, 0, 8)", () -> x.scale(0, 0, 8));
    }

    private void scaleOverAndUnder() {
        for (int rounding = 0; rounding < 4; rounding++) {
            for (int sign = 0; sign <= MINUS; sign += MINUS) {
                RealSteps x = with(ALL_MASKED | rounding << 10, 32766 + sign, HIGHEST, 0);
                x.constant(1, 1);
                boolean endless = rounding == 0 || rounding == (sign == 0 ? 2 : 1);
                due.same("over, masked", x.scale(0, 1, 2), OVER | LOSS);
                int fill = endless ? 0 : -1;
                holds("over, rounding " + rounding, x, 2,
                        (endless ? 32767 : 32766) + sign, endless ? HIGHEST : -1, fill);
                x.set(0, sign, 0, 3);
                x.turn(1, false);
                boolean away = rounding == 0 || rounding == (sign == 0 ? 2 : 1);
                due.same("under, masked", x.scale(0, 1, 2), DENORMAL | UNDER | LOSS);
                holds("1.5 units, rounding " + rounding, x, 2, sign, 0, away ? 2 : 1);
            }
        }
        RealSteps x = with(ALL_MASKED, 1, -1, -1);
        x.set(1, 16383 + MINUS, HIGHEST, 0);
        due.same("rounded up to the least normal one", x.scale(0, 1, 2), UNDER | LOSS);
        holds("rounded up to the least normal one", x, 2, 1, HIGHEST, 0);
        putWhole(x, 1, -64);
        x.set(0, 1, HIGHEST, 0);
        due.same("half a unit", x.scale(0, 1, 2), UNDER | LOSS);
        holds("half a unit", x, 2, 0, 0, 0);
        x.set(0, 1, HIGHEST, 1);
        due.same("just over half a unit", x.scale(0, 1, 2), UNDER | LOSS);
        holds("just over half a unit", x, 2, 0, 0, 1);
        putWhole(x, 1, -65);
        x.set(0, 1, -1, -1);
        due.same("just below half a unit", x.scale(0, 1, 2), UNDER | LOSS);
        holds("just below half a unit", x, 2, 0, 0, 0);
        putWhole(x, 1, -63);
        x.set(0, 1, HIGHEST, 0);
        due.same("one unit", x.scale(0, 1, 2), 0);
        holds("one unit", x, 2, 0, 0, 1);

        x.control(0);
        putWhole(x, 1, -1);
        x.set(0, 2, HIGHEST, 0);
        due.same("the least normal one is not under", x.scale(0, 1, 2), 0);
        holds("the least normal one", x, 2, 1, HIGHEST, 0);
        putWhole(x, 1, 1);
        x.set(0, 32765, -1, -1);
        due.same("the greatest normal one is not over", x.scale(0, 1, 2), 0);
        holds("the greatest normal one", x, 2, 32766, -1, -1);

        x.control(ALL_MASKED & ~UNDER);
        x.set(0, MINUS, 0, 1);
        putWhole(x, 1, -16383);
        due.same("under, not masked", x.scale(0, 1, 2), DENORMAL | UNDER);
        due.same("an answer", x.told(1), 1);
        holds("times 2^24576", x, 2, 16383 - 16445 - 16383 + 24576 + MINUS, HIGHEST, 0);
        x.control(ALL_MASKED & ~OVER);
        x.set(0, 32766 + MINUS, -1, -1);
        putWhole(x, 1, 16383);
        due.same("over, not masked", x.scale(0, 1, 2), OVER);
        due.same("an answer", x.told(1), 1);
        holds("times 2^-24576", x, 2, 32766 + 16383 - 24576 + MINUS, -1, -1);
    }

    // Promise 9
    private void extract() {
        RealSteps x = with(ALL_MASKED, 16387 + MINUS, 0xc0000000, 0);
        due.same("-24", x.extract(0, 1, 2), 0);
        holds("the power 4", x, 1, 16385, HIGHEST, 0);
        holds("the fraction -1.5", x, 2, 16383 + MINUS, 0xc0000000, 0);
        x.constant(1, 0);
        due.same("1", x.extract(0, 1, 0), 0);
        holds("the power 0", x, 1, 0, 0, 0);
        holds("the fraction 1", x, 0, 16383, HIGHEST, 0);
        x.set(3, 16381, 0xa0000000, 0);
        due.same("0.3125", x.extract(3, 3, 4), 0);
        holds("the power -2", x, 3, 16384 + MINUS, HIGHEST, 0);
        holds("the fraction 1.25", x, 4, 16383, 0xa0000000, 0);
        x.set(0, 16446, 0, 3);
        due.same("an unnormal 3", x.extract(0, 1, 2), 0);
        holds("the power 1", x, 1, 16383, HIGHEST, 0);
        holds("the fraction 1.5", x, 2, 16383, 0xc0000000, 0);
        x.set(0, MINUS, HIGHEST, 0);
        due.same("a denormal one with its highest bit", x.extract(0, 1, 2), DENORMAL);
        holds("the power -16382", x, 1, 16396 + MINUS, 0xfff80000, 0);
        holds("the fraction -1", x, 2, 16383 + MINUS, HIGHEST, 0);
        x.set(0, 16383 + 5000 + MINUS, 0, 0);
        due.same("an unnormal -0", x.extract(0, 1, 2), DIVISION);
        holds("the power of -0", x, 1, 0xffff, HIGHEST, 0);
        holds("the fraction of -0", x, 2, MINUS, 0, 0);
        x.set(0, 0xffff, 0, 0);
        due.same("an infinite one", x.extract(0, 1, 2), 0);
        holds("the power of an infinite one", x, 1, 0x7fff, HIGHEST, 0);
        holds("an infinite one itself", x, 2, 0xffff, 0, 0);
        x.set(0, 0x7fff, 1, 2);
        due.same("no number", x.extract(0, 1, 2), INVALID);
        holds("no number as power", x, 1, 0x7fff, 1, 2);
        holds("no number as fraction", x, 2, 0x7fff, 1, 2);
        x.control(ALL_MASKED & ~DIVISION);
        due.same("0, not masked", x.extract(5, 1, 2), DIVISION);
        due.same("no answer", x.told(1), 0);
        holds("no register changes", x, 1, 0x7fff, 1, 2);
        due.throwsArgument("extract(0, 3, 3)", () -> x.extract(0, 3, 3));
        due.throwsIndex("extract(8, 3, 3)", () -> x.extract(8, 3, 3));
        due.throwsIndex("extract(0, 8, 8)", () -> x.extract(0, 8, 8));
        due.throwsIndex("extract(0, 8, 1)", () -> x.extract(0, 8, 1));
        due.throwsIndex("extract(0, 1, -1)", () -> x.extract(0, 1, -1));
    }

    // Promise 10

    private void remainder() {
        RealSteps x = new RealSteps();
        putWhole(x, 0, -47);
        putWhole(x, 1, 5);
        due.same("-47 by 5", x.remainder(0, 1, 2), 0);
        holds("-2", x, 2, 16384 + MINUS, HIGHEST, 0);
        due.same("the quotient 9's bits", x.told(2), 1);
        due.same("whole", x.told(3), 0);
        x.turn(1, false);
        due.same("-47 by -5", x.remainder(0, 1, 0), 0);
        holds("-2 again", x, 0, 16384 + MINUS, HIGHEST, 0);
        due.same("the quotient 9's bits again", x.told(2), 1);
        due.same("-2 by -5", x.remainder(0, 1, 2), 0);
        holds("-2 is left", x, 2, 16384 + MINUS, HIGHEST, 0);
        due.same("the quotient 0", x.told(2), 0);
        putWhole(x, 0, -35);
        due.same("-35 by -5", x.remainder(0, 1, 2), 0);
        holds("-0", x, 2, MINUS, 0, 0);
        due.same("the quotient 7", x.told(2), 7);
        x.set(0, 16400, 0, 0);
        due.same("an unnormal 0", x.remainder(0, 1, 2), 0);
        holds("0", x, 2, 0, 0, 0);
        due.same("the quotient 0", x.told(2), 0);
        x.set(0, 16446, 0, 7);
        due.same("an unnormal 7 by -5", x.remainder(0, 1, 2), 0);
        holds("2", x, 2, 16384, HIGHEST, 0);
        x.set(0, 16440, 0, 7);
        due.same("an unnormal small one by -5", x.remainder(0, 1, 2), 0);
        holds("itself, made", x, 2, 16379, 0xe0000000, 0);
        x.set(0, MINUS, 0, 7);
        x.set(1, 0x7fff, 0, 0);
        due.same("a denormal one by an infinite one", x.remainder(0, 1, 2), DENORMAL);
        holds("itself", x, 2, MINUS, 0, 7);
        x.control(ALL_MASKED & ~UNDER);
        due.same("the same, UNDER not masked", x.remainder(0, 1, 2), DENORMAL | UNDER);
        holds("times 2^24576", x, 2, 16383 - 16443 + 24576 + MINUS, 0xe0000000, 0);
    }

    private void remainderOfWholeNumbers() {
        for (int i = -40; i <= 40; i++) {
            RealSteps x = new RealSteps();
            for (int j = 1; j <= 9; j++) {
                putWhole(x, 0, i);
                putWhole(x, 1, j);
                String what = i + " by " + j;
                due.same(what, x.remainder(0, 1, 2), 0);
                int top = i < 0 && i % j == 0 ? MINUS : topOfWhole(i % j);
                holds(what, x, 2, top, fractionOfWhole(i % j));
                due.same(what + ", the quotient's bits", x.told(2), Math.abs(i / j) & 7);
            }
        }
    }

    private void remainderAtFirst() {
        RealSteps x = with(ALL_MASKED, 0x7fff, 0, 0);
        x.constant(1, 1);
        due.same("an infinite one by 1", x.remainder(0, 1, 2), INVALID);
        holds("indefinite", x, 2, 0xffff, 0xc0000000, 0);
        due.same("1 by 0", x.remainder(1, 7, 3), INVALID);
        holds("indefinite", x, 3, 0xffff, 0xc0000000, 0);
        x.set(4, 16446, 0, 1);
        due.same("1 by an unnormal one", x.remainder(1, 4, 5), INVALID);
        holds("indefinite", x, 5, 0xffff, 0xc0000000, 0);
        x.set(4, 16446, 0, 0);
        due.same("1 by an unnormal 0", x.remainder(1, 4, 5), INVALID);
        x.set(4, 0x7fff, 5, 0);
        due.same("no number and an infinite one", x.remainder(0, 4, 5), INVALID);
        holds("no number", x, 5, 0x7fff, 5, 0);
        x.set(5, 0xffff, -1, 0);
        x.remainder(4, 5, 6);
        holds("the greater fraction, as one without a sign", x, 6, 0xffff, -1, 0);
        x.remainder(5, 4, 6);
        holds("the greater fraction of the first", x, 6, 0xffff, -1, 0);
        x.set(5, 0xffff, 5, 0);
        x.remainder(5, 4, 6);
        holds("of the same that without the sign -", x, 6, 0x7fff, 5, 0);
        x.remainder(4, 5, 6);
        holds("of the same the first without the sign -", x, 6, 0x7fff, 5, 0);
        x.remainder(5, 5, 6);
        holds("of the same, both with the sign -", x, 6, 0xffff, 5, 0);
        x.set(6, 0, 0, 1);
        due.same("no number and a denormal one", x.remainder(4, 6, 2), INVALID);
        x.control(ALL_MASKED & ~DENORMAL);
        due.same("a denormal one, not masked", x.remainder(1, 6, 2), DENORMAL);
        due.same("no answer", x.told(1), 0);
        due.same("an infinite one by a denormal one", x.remainder(0, 6, 2), INVALID);
        due.throwsIndex("remainder(8, 0, 0)", () -> x.remainder(8, 0, 0));
        due.throwsIndex("remainder(0, 8, 0)", () -> x.remainder(0, 8, 0));
        due.throwsIndex("remainder(0, 0, -1)", () -> x.remainder(0, 0, -1));
    }

    private void remainderPartial() {
        RealSteps x = with(ALL_MASKED, 16383 + 63, -1, -1);
        x.constant(1, 1);
        due.same("2^64 - 1 by 1", x.remainder(0, 1, 2), 0);
        due.same("63 apart: the quotient's bits", x.told(2), 7);
        due.same("63 apart: whole", x.told(3), 0);
        x.set(0, 16383 + 64, -1, -1);
        due.same("2^65 - 2 by 1", x.remainder(0, 1, 2), 0);
        due.same("64 apart: the bits of 2^65 - 2 by 2", x.told(2), 7);
        due.same("64 apart: partial", x.told(3), 1);
        holds("64 apart: nothing left", x, 2, 0, 0, 0);
        putWhole(x, 1, 3);
        x.set(0, 16383 + 66, HIGHEST, 0);
        due.same("2^66 by 3", x.remainder(0, 1, 2), 0);
        due.same("65 apart: partial", x.told(3), 1);
        due.same("65 apart: the bits of 2^66 by 12", x.told(2), 5);
        holds("4 is left", x, 2, 16385, HIGHEST, 0);
        due.same("4 by 3", x.remainder(2, 1, 2), 0);
        due.same("then whole", x.told(3), 0);
        holds("1 is left", x, 2, 16383, HIGHEST, 0);
        x.set(0, 16383 + 66, HIGHEST, 0);
        x.remainder(0, 1, 2);
        due.same("1 by 0", x.remainder(1, 7, 3), INVALID);
        due.same("the quotient of the one before", x.told(2), 5);
        due.same("partial as the one before", x.told(3), 1);
        x.remainder(7, 1, 3);
        due.same("0 by 3: the quotient", x.told(2), 0);
        due.same("0 by 3: whole", x.told(3), 0);
    }

    // Promise 11

    private void compare() {
        RealSteps x = new RealSteps();
        for (int i = -3; i <= 3; i++) {
            for (int j = -3; j <= 3; j++) {
                putWhole(x, 0, i);
                putWhole(x, 1, j);
                due.same("compare " + i + " and " + j, x.compare(0, 1), Integer.compare(i, j));
                due.same("nothing told", x.told(0), 0);
                due.same("an answer", x.told(1), 1);
            }
        }
        x.set(0, MINUS, 0, 0);
        x.set(1, 32766, 0, 0);
        due.same("-0 and an unnormal 0", x.compare(0, 1), 0);
        x.constant(1, 0);
        x.set(1, 16446, 0, 1);
        due.same("1 and an unnormal 1", x.compare(0, 1), 0);
        x.set(1, 16446, 0, 2);
        due.same("1 and an unnormal 2", x.compare(0, 1), -1);
        x.set(0, 16383, HIGHEST, 0);
        x.set(1, 16383, 0x7fffffff, -1);
        due.same("1 and just below it", x.compare(0, 1), 1);
        x.set(0, 0, HIGHEST, 0);
        x.set(1, 1, HIGHEST, 0);
        due.same("2^-16382 twice", x.compare(0, 1), 0);
        due.same("one of them DENORMAL", x.told(0), DENORMAL);
        x.control(ALL_MASKED & ~DENORMAL);
        due.same("DENORMAL not masked", x.compare(1, 0), RealSteps.NO_ANSWER);
        due.same("DENORMAL told", x.told(0), DENORMAL);
        due.same("no answer", x.told(1), 0);
        due.throwsIndex("compare(8, 0)", () -> x.compare(8, 0));
        due.throwsIndex("compare(0, -1)", () -> x.compare(0, -1));
    }

    private void compareInfinite() {
        RealSteps x = with(ALL_MASKED, 0x7fff, HIGHEST, 0);
        x.set(1, 0xffff, 0, 0);
        x.set(2, 32766, -1, -1);
        x.set(3, 0x7fff, 0, 0);
        x.set(4, 0x7fff, 0, 1);
        due.same("one infinite number and a finite one", x.compare(2, 1), 2);
        due.same("INVALID told", x.told(0), INVALID);
        due.same("an answer", x.told(1), 1);
        due.same("one infinite number twice", x.compare(0, 1), 0);
        x.control(ALL_MASKED & ~INVALID);
        due.same("not masked", x.compare(0, 2), RealSteps.NO_ANSWER);
        due.same("no number, not masked", x.compare(4, 2), RealSteps.NO_ANSWER);
        x.control(VIEW | ALL_MASKED);
        due.same("above all others", x.compare(0, 2), 1);
        due.same("all others below it", x.compare(2, 0), -1);
        due.same("below all others", x.compare(1, 2), -1);
        due.same("all others above it", x.compare(2, 1), 1);
        due.same("0 below", x.compare(7, 3), -1);
        due.same("two of either sign", x.compare(1, 0), -1);
        due.same("two of either sign the other way", x.compare(3, 1), 1);
        due.same("two of one sign", x.compare(0, 3), 0);
        x.turn(2, false);
        due.same("all others of their sign -", x.compare(2, 1), 1);
        due.same("no number with the other view", x.compare(4, 0), 2);
    }

    // Promise 12
    private void test() {
        RealSteps x = new RealSteps();
        due.same("test 0", x.test(0), 0);
        x.set(0, MINUS, 0, 0);
        due.same("test -0", x.test(0), 0);
        x.set(0, 600 + MINUS, 0, 0);
        due.same("test an unnormal -0", x.test(0), 0);
        x.constant(6, 0);
        due.same("test a number above 0", x.test(0), 1);
        x.turn(0, false);
        due.same("test a number below 0", x.test(0), -1);
        x.set(0, MINUS, 0, 1);
        due.same("test a denormal one", x.test(0), -1);
        due.same("DENORMAL told", x.told(0), DENORMAL);
        x.control(0);
        due.same("test a denormal one, not masked", x.test(0), 3);
        x.control(ALL_MASKED);
        x.set(0, 0xffff, HIGHEST, 0);
        due.same("test an infinite one", x.test(0), 2);
        due.same("INVALID told", x.told(0), INVALID);
        x.control(VIEW | ALL_MASKED);
        due.same("test an infinite one of two", x.test(0), -1);
        x.set(0, 0x7fff, 3, 3);
        due.same("test no number", x.test(0), 2);
        x.control(VIEW);
        due.same("test no number, not masked", x.test(0), 3);
        due.throwsIndex("test(8)", () -> x.test(8));
        due.throwsIndex("test(-1)", () -> x.test(-1));
    }

    // Promise 13
    private void examine() {
        int[][] rows = {
            {0, 0, 0, 8}, {0, 0, 1, 12}, {0, HIGHEST, 0, 12}, {1, 0, 0, 0}, {32766, 0x7fffffff, -1, 0},
            {1, HIGHEST, 0, 4}, {32766, -1, -1, 4}, {32767, 0, 0, 5}, {32767, HIGHEST, 0, 5},
            {32767, HIGHEST, 1, 1}, {32767, 0x40000000, 0, 1}, {32767, -1, -1, 1}
        };
        RealSteps x = new RealSteps();
        for (int[] row : rows) {
            x.set(3, row[0], row[1], row[2]);
            due.same("examine " + row[0] + " " + row[1] + " " + row[2], x.examine(3), row[3]);
            x.turn(3, false);
            due.same("examine it turned", x.examine(3), row[3] + 2);
        }
        due.same("examining tells nothing", x.told(0), 0);
        due.throwsIndex("examine(8)", () -> x.examine(8));
        due.throwsIndex("examine(-1)", () -> x.examine(-1));
    }

    // Promise 14
    private void told() {
        RealSteps x = with(ALL_MASKED, 16383, 0xc0000000, 0);
        due.same("whole answers what is told", x.whole(0, 1), LOSS);
        due.same("told(0)", x.told(0), LOSS);
        due.same("told(1)", x.told(1), 1);
        x.set(0, 1, 1, 1);
        x.turn(0, true);
        x.constant(1, 2);
        x.examine(0);
        due.same("no step in between", x.told(0), LOSS);
        due.same("the next step tells anew", x.scale(2, 2, 3), 0);
        due.same("told(0) of the last step", x.told(0), 0);
        x.set(0, 0, 0, 1);
        x.test(0);
        due.same("told of test", x.told(0), DENORMAL);
        due.throwsIndex("whole(2, 8)", () -> x.whole(2, 8));
        due.same("a step that throws is none", x.told(0), DENORMAL);
        putWhole(x, 0, 7);
        x.remainder(0, 2, 4);
        x.whole(2, 3);
        due.same("the last remainder's quotient after other steps", x.told(2), 7);
        x.control(ALL_MASKED & ~DENORMAL);
        x.set(5, 0, 0, 1);
        x.remainder(5, 2, 4);
        due.same("one that did not come to its quotient", x.told(2), 7);
        x.control(ALL_MASKED);
        x.remainder(5, 2, 4);
        due.same("one that came to the quotient 0", x.told(2), 0);
        due.throwsArgument("told(4)", () -> x.told(4));
        due.throwsArgument("told(-1)", () -> x.told(-1));
    }

    private void throwingChangesNothing() {
        RealSteps x = with(ALL_MASKED, 16383, 0xc0000000, 0);
        putWhole(x, 1, 7);
        x.constant(1, 2);
        x.remainder(1, 2, 3);
        x.whole(0, 4);
        due.throwsIndex("whole", () -> x.whole(1, 8));
        due.throwsIndex("scale", () -> x.scale(1, 1, 8));
        due.throwsIndex("extract", () -> x.extract(1, 0, 8));
        due.throwsArgument("extract to one register", () -> x.extract(1, 0, 0));
        due.throwsIndex("remainder", () -> x.remainder(2, 2, 8));
        due.throwsIndex("compare", () -> x.compare(2, 8));
        due.throwsIndex("test", () -> x.test(8));
        due.same("told(0) after what throws", x.told(0), LOSS);
        due.same("told(1) after what throws", x.told(1), 1);
        due.same("told(2) after what throws", x.told(2), 7);
        holds("a register after what throws", x, 0, 16383, 0xc0000000, 0);
    }
}
