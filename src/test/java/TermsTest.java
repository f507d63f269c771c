/**
 * The document's 'Terms' up to STEPS, sentence by sentence: kinds and sizes, the control, to round, to
 * make, and what every step looks at first. Each test begins with the sentence that it is of.
 */
public final class TermsTest extends Bench {
    private static final int[] FINITE_POWERS = {1, 2, 255, ONE, 32765, 32766};
    private static final long[] NO_NUMBER_FRACTIONS = {
        1L, 1L << 31, 1L << 32, 1L << 62, (1L << 62) + 1, Long.MAX_VALUE, HIGHEST_BIT + 1, 3L << 62, ALL_BITS
    };
    /** UNDER goes this far, as OVER does the other way, when it is not masked. */
    private static final int FAR = 24576;

    public static void main(String[] args) {
        new TermsTest().run();
    }

    private void run() {
        runAll(
                this::kinds,
                this::sizes,
                this::masks,
                this::roundings,
                this::controlBits,
                this::toRound,
                this::makeZero,
                this::makeUnder,
                this::makeUnderMasked,
                this::makeUnderNotMasked,
                this::makeOver,
                this::makeOverMasked,
                this::makeOverNotMasked,
                this::makeFinite,
                this::noNumber,
                this::noNumberOfTwo,
                this::impossible,
                this::denormal,
                this::division,
                this::order,
                this::endOfStep,
                this::unnormal);
    }

    // ITS KIND

    private void examined(int top, long fraction, int want) {
        for (int sign : SIGNS) {
            RealSteps x = with(MASKS, top + sign, fraction);
            String what = "examine " + (top + sign) + " " + Long.toHexString(fraction);
            due.same(what, x.examine(0), want + (sign == 0 ? 0 : 2));
        }
    }

    private void kinds() {
        due.sentence("0 ZERO (p and f are 0)");
        examined(0, 0L, 8);

        due.sentence("1 DENORMAL (p is 0, f is not)");
        for (long fraction : new long[] {1L, 1L << 31, 1L << 32, 1L << 62, Long.MAX_VALUE, HIGHEST_BIT, ALL_BITS}) {
            examined(0, fraction, 12);
            RealSteps x = with(MASKS, 0, fraction);
            due.same("test it", x.test(0), 1);
            due.same("told", x.told(0), DENORMAL);
        }

        due.sentence("2 UNNORMAL (p is 1 .. 32766, the highest bit of f is 0; f may be 0)");
        for (int power : FINITE_POWERS) {
            for (long fraction : new long[] {0L, 1L, 1L << 32, 1L << 62, Long.MAX_VALUE}) {
                examined(power, fraction, 0);
            }
        }

        due.sentence("3 NORMAL (p is 1 .. 32766, the highest bit of f is 1)");
        for (int power : FINITE_POWERS) {
            for (long fraction : new long[] {HIGHEST_BIT, HIGHEST_BIT + 1, 3L << 62, ALL_BITS}) {
                examined(power, fraction, 4);
            }
        }

        due.sentence("4 INFINITE (p is 32767, the lower 63 bits of f are 0, the highest is no matter)");
        examined(ENDLESS, 0L, 5);
        examined(ENDLESS, HIGHEST_BIT, 5);

        due.sentence("5 NO NUMBER (p is 32767, others)");
        for (long fraction : NO_NUMBER_FRACTIONS) {
            examined(ENDLESS, fraction, 1);
        }
    }

    // THE SIZE

    private void comparedBothWays(int top, long fraction, int otherTop, long otherFraction, int want) {
        for (int sign : SIGNS) {
            RealSteps x = with(MASKS, top + sign, fraction);
            put(x, 1, otherTop + sign, otherFraction);
            String what = (top + sign) + " " + Long.toHexString(fraction)
                    + " and " + (otherTop + sign) + " " + Long.toHexString(otherFraction);
            int signed = sign == 0 ? want : -want;
            due.same("compare " + what, x.compare(0, 1), signed);
            due.same("compare the other way " + what, x.compare(1, 0), -signed);
        }
    }

    private void sizes() {
        due.sentence("THE SIZE of one of the first four kinds is f times 2^(p - 16446)");
        RealSteps x = with(MASKS, 16446, 1L);
        due.same("f times 2^0 is whole", x.whole(0, 1), 0);
        due.same("f times 2^0: its power", x.extract(0, 1, 2), 0);
        holdsWhole("f times 2^0: its power", x, 1, 0);
        put(x, 0, 16445, 1L);
        due.same("f times 2^-1 is not", x.whole(0, 1), LOSS);
        comparedBothWays(16446, 1L, ONE, HIGHEST_BIT, 0);
        comparedBothWays(16446, Long.MAX_VALUE, 16445, -2L, 0);
        comparedBothWays(32766, 1L, 32703, HIGHEST_BIT, 0);
        comparedBothWays(32766, 1L, 32703, HIGHEST_BIT + 1, -1);
        comparedBothWays(64, 1L, 1, HIGHEST_BIT, 0);
        comparedBothWays(64, 1L, 1, Long.MAX_VALUE, 1);

        due.sentence("for p = 0 as for p = 1");
        for (long fraction : new long[] {1L, 3L, 1L << 62, Long.MAX_VALUE, HIGHEST_BIT, ALL_BITS}) {
            comparedBothWays(0, fraction, 1, fraction, 0);
        }
        comparedBothWays(0, 2L, 1, 1L, 1);
        comparedBothWays(0, 2L, 2, 1L, 0);
        comparedBothWays(0, 3L, 2, 1L, 1);
        comparedBothWays(0, ALL_BITS, 1, HIGHEST_BIT, 1);
        comparedBothWays(0, 1L, 1, 0L, 1);

        due.sentence("its NUMBER is that with its sign");
        x = with(MASKS, ONE + MINUS, ALL_BITS);
        put(x, 1, 0, 0L);
        put(x, 2, 1, 1L);
        put(x, 3, 1 + MINUS, 1L);
        due.same("a great one with the sign - and 0", x.compare(0, 1), -1);
        due.same("0 and one with the sign -", x.compare(1, 3), 1);
        due.same("two of a size, the first without the sign", x.compare(2, 3), 1);
        due.same("two of a size, the first with the sign -", x.compare(3, 2), -1);
        due.same("the greater size with the sign -", x.compare(0, 3), -1);
        due.same("the greater size with the sign - and a small number", x.compare(0, 2), -1);
    }

    // THE CONTROL

    /** All masked but this bit, and then this bit alone masked; each time register 0 is as given. */
    private interface Masked {
        void look(RealSteps x, boolean masked);
    }

    private void bothMasks(int bit, int top, long fraction, Masked look) {
        look.look(with(MASKS & ~bit, top, fraction), false);
        look.look(with(bit, top, fraction), true);
    }

    private void masks() {
        due.sentence("the MASKS of what can be TOLD (1: masked): INVALID 1");
        bothMasks(INVALID, ENDLESS, 1L, (x, masked) -> {
            due.same("test no number", x.test(0), masked ? 2 : RealSteps.NO_ANSWER);
            tells("masked " + masked, x, 1, masked ? 1 : 0);
        });

        due.sentence("DENORMAL 2");
        bothMasks(DENORMAL, 0, 1L, (x, masked) -> {
            due.same("test a denormal one", x.test(0), masked ? 1 : RealSteps.NO_ANSWER);
            tells("masked " + masked, x, 2, masked ? 1 : 0);
        });

        due.sentence("DIVISION 4");
        bothMasks(DIVISION, 0, 0L, (x, masked) -> {
            due.same("extract 0", x.extract(0, 1, 2), 4);
            tells("masked " + masked, x, 4, masked ? 1 : 0);
        });

        due.sentence("OVER 8");
        bothMasks(OVER, 32766, HIGHEST_BIT, (x, masked) -> {
            putWhole(x, 1, 1);
            due.same("2^16384", x.scale(0, 1, 2), masked ? 8 + 32 : 8);
            due.same("masked " + masked, x.part(2, 0), masked ? ENDLESS : 32767 - FAR);
        });

        due.sentence("UNDER 16");
        bothMasks(UNDER, 1, HIGHEST_BIT + 1, (x, masked) -> {
            putWhole(x, 1, -1);
            due.same("half of 2^-16382 and a little", x.scale(0, 1, 2), masked ? 16 + 32 : 16);
            due.same("masked " + masked, x.part(2, 0), masked ? 0 : FAR);
        });

        due.sentence("LOSS 32 (that of LOSS changes nothing here)");
        bothMasks(LOSS, ONE, 3L << 62, (x, masked) -> {
            due.same("whole 1.5", x.whole(0, 1), 32);
            tells("masked " + masked, x, 32, 1);
            holdsWhole("masked " + masked, x, 1, 2);
        });
        for (int loss = 0; loss <= LOSS; loss += LOSS) {
            RealSteps x = with(OVER + UNDER + loss, 32766, HIGHEST_BIT);
            putWhole(x, 1, 1);
            due.same("over", x.scale(0, 1, 2), OVER + LOSS);
            tells("over", x, OVER + LOSS, 1);
            holds("over", x, 2, ENDLESS, HIGHEST_BIT);
            put(x, 0, 1, HIGHEST_BIT + 1);
            putWhole(x, 1, -1);
            due.same("under", x.scale(0, 1, 2), UNDER + LOSS);
            tells("under", x, UNDER + LOSS, 1);
            holds("under", x, 2, 0, 1L << 62);
        }
    }

    /** Quarters of a whole number, rounded to it. */
    private void rounded(int rounding, int quarters, long want) {
        for (int more : new int[] {0, MASKS, 0xe3c0}) {
            RealSteps x = with(rounding + more);
            putWhole(x, 0, quarters);
            x.set(0, x.part(0, 0) - 2, x.part(0, 1), x.part(0, 2));
            String what = quarters + " quarters, control " + Integer.toHexString(rounding + more);
            due.same(what, x.whole(0, 1), LOSS);
            boolean minusNought = want == 0 && quarters < 0;
            holds(what, x, 1, minusNought ? MINUS : topOfWhole(want), fractionOfWhole(want));
        }
    }

    private void roundings() {
        due.sentence("the ROUNDING: 0 to the nearest");
        rounded(NEAREST, 1, 0);
        rounded(NEAREST, 3, 1);
        rounded(NEAREST, 5, 1);
        rounded(NEAREST, 7, 2);
        rounded(NEAREST, -1, 0);
        rounded(NEAREST, -3, -1);
        rounded(NEAREST, -5, -1);
        rounded(NEAREST, -7, -2);

        due.sentence("(of two that are as near the even one)");
        rounded(NEAREST, 2, 0);
        rounded(NEAREST, 6, 2);
        rounded(NEAREST, 10, 2);
        rounded(NEAREST, 14, 4);
        rounded(NEAREST, -2, 0);
        rounded(NEAREST, -6, -2);
        rounded(NEAREST, -10, -2);

        due.sentence("1 down");
        rounded(DOWN, 1, 0);
        rounded(DOWN, 2, 0);
        rounded(DOWN, 7, 1);
        rounded(DOWN, -1, -1);
        rounded(DOWN, -2, -1);
        rounded(DOWN, -7, -2);

        due.sentence("2 up");
        rounded(UP, 1, 1);
        rounded(UP, 2, 1);
        rounded(UP, 5, 2);
        rounded(UP, -1, 0);
        rounded(UP, -3, 0);
        rounded(UP, -7, -1);

        due.sentence("3 towards 0");
        rounded(CUT, 1, 0);
        rounded(CUT, 3, 0);
        rounded(CUT, 7, 1);
        rounded(CUT, -1, 0);
        rounded(CUT, -3, 0);
        rounded(CUT, -7, -1);
    }

    private void controlBits() {
        due.sentence("bit 12 the VIEW: 0 when there is one infinite number alone, 1 when there are two");
        for (int more : new int[] {0, UP, CUT, 0xe3c0}) {
            RealSteps x = with(MASKS + more, ENDLESS + MINUS, HIGHEST_BIT);
            put(x, 1, ENDLESS, 0L);
            due.same("one infinite number", x.compare(0, 1), 0);
            due.same("one infinite number and 0", x.test(0), 2);
            x.control(MASKS + more + VIEW);
            due.same("two infinite numbers", x.compare(0, 1), -1);
            due.same("one of two infinite numbers and 0", x.test(0), -1);
        }

        due.sentence("Others are kept.");
        for (int bit : new int[] {6, 7, 8, 9, 13, 14, 15}) {
            for (int word : new int[] {0, MASKS, MASKS + UP, MASKS + VIEW}) {
                RealSteps plain = with(word);
                RealSteps other = with(word + (1 << bit));
                String what = "control " + Integer.toHexString(word) + " and bit " + bit;
                due.same(what + ": steps", steps(other), steps(plain));
                sameState(what, other, state(plain));
            }
        }
    }

    /** Some steps, whose answers and registers hang on every bit of the control; answers a sum of them. */
    private static long steps(RealSteps x) {
        put(x, 0, ONE, 3L << 62);
        long sum = x.whole(0, 1);
        put(x, 0, 32766, ALL_BITS);
        sum = 64 * sum + x.scale(0, 1, 2);
        put(x, 0, 1, HIGHEST_BIT + 1);
        putWhole(x, 1, -1);
        sum = 64 * sum + x.scale(0, 1, 3);
        sum = 64 * sum + x.extract(7, 4, 5);
        put(x, 0, ENDLESS, 5L);
        sum = 64 * sum + x.whole(0, 6);
        put(x, 0, 0, 1L);
        sum = 64 * sum + x.scale(0, 1, 7);
        put(x, 0, ENDLESS + MINUS, 0L);
        return 64 * sum + x.test(0);
    }

    // TO ROUND

    private void toRound() {
        due.sentence("TO ROUND a number to a UNIT 2^q is to take a multiple of the unit: it itself");
        for (int rounding : ROUNDINGS) {
            for (long number : new long[] {0, 1, -1, 2, 3, -7, 1L << 40, Long.MAX_VALUE, -Long.MAX_VALUE}) {
                RealSteps x = with(rounding);
                putWhole(x, 0, number);
                due.same("whole " + number, x.whole(0, 1), 0);
                holdsWhole("whole " + number, x, 1, number);
            }
            for (int sign : SIGNS) {
                RealSteps x = with(MASKS + rounding, 10 + sign, 3L << 62);
                putWhole(x, 1, -71);
                due.same("3 times 2^-16445", x.scale(0, 1, 2), 0);
                holds("3 times 2^-16445", x, 2, sign, 3L);
                putWhole(x, 1, -72);
                due.same("3 halves of 2^-16445 are no multiple", x.scale(0, 1, 2), UNDER + LOSS);
            }
        }

        due.sentence("or that just below or just above it, as the rounding says");
        long[] just = {Long.MAX_VALUE - 1, Long.MAX_VALUE};
        for (int rounding : ROUNDINGS) {
            for (int sign : SIGNS) {
                RealSteps x = with(rounding, ONE + 62 + sign, -3L);
                due.same("2^63 - 3/2", x.whole(0, 1), LOSS);
                boolean up = sign == 0 && rounding == UP || sign != 0 && rounding == DOWN;
                boolean nearest = rounding == NEAREST;
                long want = up ? just[1] : just[0];
                holdsWhole("2^63 - 3/2 with the sign " + sign, x, 1, sign == 0 ? want : -want);
                put(x, 0, ONE + 62 + sign, -1L);
                due.same("2^63 - 1/2", x.whole(0, 1), LOSS);
                boolean beyond = up || nearest;
                holds("2^63 - 1/2", x, 1, ONE + (beyond ? 63 : 62) + sign, beyond ? HIGHEST_BIT : -2L);
                put(x, 0, ONE - 1 + sign, 1L);
                due.same("2^-64", x.whole(0, 1), LOSS);
                holds("2^-64", x, 1, sign + (up ? ONE : 0), up ? HIGHEST_BIT : 0L);
                put(x, 0, 1 + sign, HIGHEST_BIT);
                due.same("2^-16382", x.whole(0, 1), LOSS);
                holds("2^-16382", x, 1, sign + (up ? ONE : 0), up ? HIGHEST_BIT : 0L);
            }
        }
    }

    // TO MAKE

    /** A real times 2^n. */
    private static int scaled(RealSteps x, int top, long fraction, int n) {
        put(x, 0, top, fraction);
        putWhole(x, 1, n);
        return x.scale(0, 1, 2);
    }

    private void makeZero() {
        due.sentence("TO MAKE a real of a sign and an exact size x: x = 0 is ZERO with the sign");
        for (int sign : SIGNS) {
            for (int power : new int[] {0, 1, ONE, 32766}) {
                for (int word : new int[] {0, MASKS, DOWN, UP}) {
                    RealSteps x = with(word);
                    due.same("0 times 2^-16383", scaled(x, power + sign, 0L, -16383), 0);
                    holds("0 times 2^-16383", x, 2, sign, 0L);
                    due.same("0 times 2^16383", scaled(x, power + sign, 0L, 16383), 0);
                    holds("0 times 2^16383", x, 2, sign, 0L);
                    due.same("whole 0", x.whole(0, 3), 0);
                    holds("whole 0", x, 3, sign, 0L);
                    due.same("0 by 16383", x.remainder(0, 1, 4), 0);
                    holds("0 by 16383", x, 4, sign, 0L);
                }
            }
        }
    }

    private void makeUnder() {
        due.sentence("If x < 2^-16382");
        for (int sign : SIGNS) {
            for (int word : new int[] {0, MASKS}) {
                for (int rounding : ROUNDINGS) {
                    RealSteps x = with(word + rounding);
                    due.same("2^-16382", scaled(x, ONE + sign, HIGHEST_BIT, -16382), 0);
                    holds("2^-16382", x, 2, 1 + sign, HIGHEST_BIT);
                    due.same("a little more", scaled(x, ONE + sign, HIGHEST_BIT + 1, -16382), 0);
                    holds("a little more", x, 2, 1 + sign, HIGHEST_BIT + 1);
                    int told = word == 0 ? UNDER : UNDER + LOSS;
                    due.same("a little less", scaled(x, ONE - 1 + sign, ALL_BITS, -16382), told);
                }
            }
        }
    }

    private void makeUnderMasked() {
        due.sentence("with UNDER masked the answer is x rounded to the unit 2^-16445");
        for (int rounding : ROUNDINGS) {
            for (int sign : SIGNS) {
                boolean away = rounding == (sign == 0 ? UP : DOWN);
                boolean nearest = rounding == NEAREST;
                makeUnits(rounding, sign, HIGHEST_BIT, -1, away ? 1 : 0);
                makeUnits(rounding, sign, HIGHEST_BIT + 1, -1, away || nearest ? 1 : 0);
                makeUnits(rounding, sign, ALL_BITS, -2, away ? 1 : 0);
                makeUnits(rounding, sign, HIGHEST_BIT, -2, away ? 1 : 0);
                makeUnits(rounding, sign, ALL_BITS, -16300, away ? 1 : 0);
                makeUnits(rounding, sign, 3L << 62, 0, away || nearest ? 2 : 1);
                makeUnits(rounding, sign, 5L << 61, 1, away ? 3 : 2);
                makeUnits(rounding, sign, ALL_BITS, 61, away || nearest ? 1L << 62 : Long.MAX_VALUE >>> 1);
            }
        }

        due.sentence("rounded up to 2^-16382 it is NORMAL");
        for (int rounding : ROUNDINGS) {
            for (int sign : SIGNS) {
                RealSteps x = with(UNDER + rounding);
                boolean away = rounding == NEAREST || rounding == (sign == 0 ? UP : DOWN);
                due.same("2^-16382 less 2^-16446", scaled(x, ONE - 1 + sign, ALL_BITS, -16382), UNDER + LOSS);
                holds("2^-16382 less 2^-16446", x, 2, (away ? 1 : 0) + sign, away ? HIGHEST_BIT : Long.MAX_VALUE);
            }
        }

        due.sentence("if that is not x, UNDER and LOSS are told");
        RealSteps x = with(MASKS);
        due.same("2^-16383", scaled(x, ONE, HIGHEST_BIT, -16383), 0);
        holds("2^-16383", x, 2, 0, 1L << 62);
        due.same("2^-16445", scaled(x, ONE - 100, HIGHEST_BIT, -16345), 0);
        holds("2^-16445", x, 2, 0, 1L);
        due.same("2^-16446", scaled(x, ONE - 100, HIGHEST_BIT, -16346), UNDER + LOSS);
        holds("2^-16446", x, 2, 0, 0L);
        due.same("a lowest bit is lost", scaled(x, 1, HIGHEST_BIT + 1, -1), UNDER + LOSS);
        holds("a lowest bit is lost", x, 2, 0, 1L << 62);
        due.same("no bit is lost", scaled(x, 1, HIGHEST_BIT + 2, -1), 0);
        holds("no bit is lost", x, 2, 0, (1L << 62) + 1);
    }

    /** A fraction that begins 2^k units of 2^-16445, made with UNDER masked. */
    private void makeUnits(int rounding, int sign, long fraction, int k, long want) {
        RealSteps x = with(UNDER + rounding);
        String what = Long.toHexString(fraction) + " from 2^" + k + " units, rounding " + (rounding >> 10);
        due.same(what, scaled(x, ONE - 16445 + 16383 + k + sign, fraction, -16383), UNDER + LOSS);
        holds(what, x, 2, sign, want);
    }

    private void makeUnderNotMasked() {
        due.sentence("not masked: the answer is y times 2^24576, UNDER is told, and LOSS if y is not x");
        for (int rounding : ROUNDINGS) {
            for (int sign : SIGNS) {
                RealSteps x = with(MASKS - UNDER + rounding);
                due.same("2^-16383", scaled(x, ONE + sign, HIGHEST_BIT, -16383), UNDER);
                holds("2^-16383", x, 2, FAR + sign, HIGHEST_BIT);
                tells("the step goes on", x, UNDER, 1);
                due.same("all bits", scaled(x, ONE - 1 + sign, ALL_BITS, -16382), UNDER);
                holds("all bits", x, 2, FAR + sign, ALL_BITS);
                due.same("the least", scaled(x, sign, 1L, -16383), DENORMAL + UNDER);
                holds("the least", x, 2, ONE - 16445 - 16383 + FAR + sign, HIGHEST_BIT);
                due.same("a denormal one", scaled(x, sign, 3L, 0), DENORMAL + UNDER);
                holds("a denormal one", x, 2, ONE - 16444 + FAR + sign, 3L << 62);
                due.same("an unnormal one", scaled(x, 3 + sign, 5L, 0), UNDER);
                holds("an unnormal one", x, 2, ONE - 16441 + FAR + sign, 5L << 61);
            }
        }
    }

    private void makeOver() {
        due.sentence("Otherwise, if y >= 2^16384, OVER is told");
        for (int word : new int[] {0, MASKS}) {
            for (int sign : SIGNS) {
                int told = word == 0 ? OVER : OVER + LOSS;
                RealSteps x = with(word);
                due.same("the greatest", scaled(x, 16384 + sign, ALL_BITS, 16382), 0);
                holds("the greatest", x, 2, 32766 + sign, ALL_BITS);
                due.same("2^16383", scaled(x, ONE + sign, HIGHEST_BIT, 16383), 0);
                holds("2^16383", x, 2, 32766 + sign, HIGHEST_BIT);
                due.same("2^16384", scaled(x, 16384 + sign, HIGHEST_BIT, 16383), told);
                due.same("the greatest twice", scaled(x, 32766 + sign, ALL_BITS, 1), told);
                due.same("as far as it goes", scaled(x, 32766 + sign, ALL_BITS, 16383), told);
            }
        }
    }

    private void overMasked(String what, int rounding, int sign, boolean infinite) {
        for (int n : new int[] {1, 2, 16383}) {
            RealSteps x = with(OVER + rounding);
            due.same(what, scaled(x, 32766 + sign, HIGHEST_BIT, n), OVER + LOSS);
            tells(what, x, OVER + LOSS, 1);
            holds(what, x, 2, (infinite ? ENDLESS : 32766) + sign, infinite ? HIGHEST_BIT : ALL_BITS);
        }
    }

    private void makeOverMasked() {
        due.sentence("masked LOSS is told, too, and the answer is infinite (f is 2^63) when the rounding is"
                + " to the nearest");
        overMasked("to the nearest", NEAREST, 0, true);
        overMasked("to the nearest with the sign -", NEAREST, MINUS, true);

        due.sentence("or goes away from 0 (up without, down with the sign -)");
        overMasked("up", UP, 0, true);
        overMasked("down with the sign -", DOWN, MINUS, true);

        due.sentence("or else the greatest NORMAL one");
        overMasked("down", DOWN, 0, false);
        overMasked("up with the sign -", UP, MINUS, false);
        overMasked("towards 0", CUT, 0, false);
        overMasked("towards 0 with the sign -", CUT, MINUS, false);
    }

    private void makeOverNotMasked() {
        due.sentence("not masked: the answer is y times 2^-24576, and LOSS is told if y is not x");
        for (int rounding : ROUNDINGS) {
            for (int sign : SIGNS) {
                RealSteps x = with(MASKS - OVER + rounding);
                due.same("2^16384", scaled(x, 32766 + sign, HIGHEST_BIT, 1), OVER);
                tells("the step goes on", x, OVER, 1);
                holds("2^16384", x, 2, 32767 - FAR + sign, HIGHEST_BIT);
                due.same("all bits", scaled(x, 32766 + sign, ALL_BITS, 16383), OVER);
                holds("all bits", x, 2, 32766 + 16383 - FAR + sign, ALL_BITS);
                due.same("an unnormal one", scaled(x, 32766 + sign, 1L, 64), OVER);
                holds("an unnormal one", x, 2, 32767 - FAR + sign, HIGHEST_BIT);
            }
        }
    }

    private void makeFinite() {
        due.sentence("Otherwise the answer is y, and LOSS is told if y is not x");
        for (int rounding : ROUNDINGS) {
            RealSteps x = with(rounding);
            due.same("all bits times 2^9", scaled(x, ONE, ALL_BITS, 9), 0);
            holds("all bits times 2^9", x, 2, ONE + 9, ALL_BITS);
        }

        due.sentence("A finite answer is NORMAL");
        RealSteps x = with(MASKS);
        due.same("an unnormal one", scaled(x, 64 + MINUS, 1L, 0), 0);
        holds("an unnormal one", x, 2, 1 + MINUS, HIGHEST_BIT);
        due.same("the least normal one with p 0", scaled(x, 0, HIGHEST_BIT, 0), DENORMAL);
        holds("the least normal one with p 0", x, 2, 1, HIGHEST_BIT);
        due.same("a denormal one", scaled(x, 0, 1L, 63), DENORMAL);
        holds("a denormal one", x, 2, 1, HIGHEST_BIT);

        due.sentence("or, if it is below 2^-16382, DENORMAL");
        due.same("an unnormal one", scaled(x, 63 + MINUS, 1L, 0), 0);
        holds("an unnormal one", x, 2, MINUS, 1L << 62);
        due.same("the least unnormal one", scaled(x, 1, 1L, 0), 0);
        holds("the least unnormal one", x, 2, 0, 1L);
        due.same("a denormal one", scaled(x, 0, 1L, 62), DENORMAL);
        holds("a denormal one", x, 2, 0, 1L << 62);

        due.sentence("or ZERO");
        due.same("an unnormal 0", scaled(x, 1, 0L, 0), 0);
        holds("an unnormal 0", x, 2, 0, 0L);
        due.same("rounded to 0", scaled(x, MINUS, 1L, -1), DENORMAL + UNDER + LOSS);
        holds("rounded to 0", x, 2, MINUS, 0L);
    }

    // STEPS: (1)

    private void noNumber() {
        due.sentence("(1) a real that is NO NUMBER: INVALID is told; masked the answer is that real");
        for (long fraction : NO_NUMBER_FRACTIONS) {
            for (int sign : SIGNS) {
                int top = ENDLESS + sign;
                RealSteps x = with(INVALID, top, fraction);
                putWhole(x, 1, 5);
                due.same("whole", x.whole(0, 2), INVALID);
                holds("whole", x, 2, top, fraction);
                due.same("scale, the first", x.scale(0, 1, 2), INVALID);
                holds("scale, the first", x, 2, top, fraction);
                due.same("scale, the second", x.scale(1, 0, 3), INVALID);
                holds("scale, the second", x, 3, top, fraction);
                due.same("extract", x.extract(0, 4, 5), INVALID);
                holds("extract, the power", x, 4, top, fraction);
                holds("extract, the fraction", x, 5, top, fraction);
                due.same("remainder, the first", x.remainder(0, 1, 6), INVALID);
                holds("remainder, the first", x, 6, top, fraction);
                due.same("remainder, the second", x.remainder(1, 0, 7), INVALID);
                holds("remainder, the second", x, 7, top, fraction);
                tells("an answer", x, INVALID, 1);
                due.same("compare, the first", x.compare(0, 1), 2);
                due.same("compare, the second", x.compare(1, 0), 2);
                due.same("test", x.test(0), 2);
                tells("test", x, INVALID, 1);
            }
        }
    }

    private void chosen(int top, long fraction, int otherTop, long otherFraction) {
        RealSteps x = with(INVALID, top, fraction);
        put(x, 1, otherTop, otherFraction);
        String what = Integer.toHexString(top) + " " + Long.toHexString(fraction)
                + " before " + Integer.toHexString(otherTop) + " " + Long.toHexString(otherFraction);
        due.same(what, x.scale(0, 1, 2), INVALID);
        holds("scale, " + what, x, 2, top, fraction);
        x.scale(1, 0, 3);
        holds("scale the other way, " + what, x, 3, top, fraction);
        x.remainder(0, 1, 4);
        holds("remainder, " + what, x, 4, top, fraction);
        x.remainder(1, 0, 5);
        holds("remainder the other way, " + what, x, 5, top, fraction);
    }

    private void noNumberOfTwo() {
        due.sentence("of two the one with the greater fraction (as a whole number without a sign)");
        for (int sign : SIGNS) {
            for (int other : SIGNS) {
                chosen(ENDLESS + sign, 2L, ENDLESS + other, 1L);
                chosen(ENDLESS + sign, HIGHEST_BIT + 1, ENDLESS + other, Long.MAX_VALUE);
                chosen(ENDLESS + sign, ALL_BITS, ENDLESS + other, HIGHEST_BIT + 1);
                chosen(ENDLESS + sign, 1L << 32, ENDLESS + other, 0xffffffffL);
                chosen(ENDLESS + sign, ALL_BITS, ENDLESS + other, -2L);
            }
        }

        due.sentence("of the same that without the sign -");
        for (long fraction : NO_NUMBER_FRACTIONS) {
            chosen(ENDLESS, fraction, ENDLESS + MINUS, fraction);
        }

        due.sentence("then the first");
        for (long fraction : NO_NUMBER_FRACTIONS) {
            chosen(ENDLESS, fraction, ENDLESS, fraction);
            chosen(ENDLESS + MINUS, fraction, ENDLESS + MINUS, fraction);
        }
    }

    // STEPS: (2) to (4)

    private void impossible() {
        due.sentence("(2) What the step does not do, as said: INVALID is told; masked the answer is the"
                + " INDEFINITE: p 32767, the sign -, f 3 times 2^62");
        RealSteps x = with(INVALID, ENDLESS, HIGHEST_BIT);
        putWhole(x, 1, 5);
        due.same("scale by an infinite one", x.scale(1, 0, 2), INVALID);
        holdsIndefinite("scale by an infinite one", x, 2);
        due.same("an infinite one by 5", x.remainder(0, 1, 3), INVALID);
        holdsIndefinite("an infinite one by 5", x, 3);
        due.same("5 by 0", x.remainder(1, 7, 4), INVALID);
        holdsIndefinite("5 by 0", x, 4);
        tells("an answer", x, INVALID, 1);
        due.same("compare with one infinite number", x.compare(0, 1), 2);
        due.same("test one infinite number", x.test(0), 2);
        tells("test", x, INVALID, 1);
    }

    private void denormal() {
        due.sentence("(3) A real that is DENORMAL: DENORMAL is told; masked it goes on");
        for (long fraction : new long[] {1L, 1L << 62, HIGHEST_BIT, ALL_BITS}) {
            RealSteps x = with(MASKS, 0, fraction);
            putWhole(x, 1, 1);
            due.same("whole", x.whole(0, 2), DENORMAL + LOSS);
            holdsWhole("whole", x, 2, 0);
            due.same("scale, the first", x.scale(0, 7, 2), DENORMAL);
            holds("scale, the first", x, 2, fraction < 0 ? 1 : 0, fraction);
            due.same("scale, the second", x.scale(1, 0, 3), DENORMAL);
            holdsWhole("scale, the second", x, 3, 1);
            due.same("extract", x.extract(0, 4, 5), DENORMAL);
            holds("the fraction", x, 5, ONE, fraction << Long.numberOfLeadingZeros(fraction));
            due.same("remainder, the first", x.remainder(0, 1, 6), DENORMAL);
            holds("remainder, the first", x, 6, fraction < 0 ? 1 : 0, fraction);
            due.same("remainder, both", x.remainder(0, 0, 6), DENORMAL);
            holdsWhole("remainder, both", x, 6, 0);
            due.same("remainder, the second", x.remainder(1, 0, 6), DENORMAL);
            due.same("compare, the first", x.compare(0, 1), -1);
            due.same("compare, the first, told", x.told(0), DENORMAL);
            due.same("compare, the second", x.compare(1, 0), 1);
            due.same("compare, the second, told", x.told(0), DENORMAL);
            due.same("test", x.test(0), 1);
            tells("test", x, DENORMAL, 1);
        }
    }

    private void division() {
        due.sentence("(4) DIVISION, as said");
        RealSteps x = with(DIVISION);
        due.same("extract 0", x.extract(7, 1, 2), DIVISION);
        tells("masked", x, DIVISION, 1);
        holds("masked, the power", x, 1, ENDLESS + MINUS, HIGHEST_BIT);
        x.control(MASKS - DIVISION);
        due.same("extract 0", x.extract(7, 3, 4), DIVISION);
        tells("not masked", x, DIVISION, 0);
        holdsWhole("not masked, the power", x, 3, 0);
        due.same("no other step: whole 0", x.whole(7, 3), 0);
        due.same("no other step: 0 by 2^0", x.scale(7, 7, 3), 0);
        due.same("no other step: 0 by 0", x.remainder(2, 7, 3), INVALID);
    }

    private void order() {
        due.sentence("At first it is looked at, in this order: (1) before (2)");
        for (int word : new int[] {INVALID, MASKS}) {
            RealSteps x = with(word, ENDLESS, 5L);
            put(x, 1, ENDLESS, HIGHEST_BIT);
            due.same("no number times an infinite power", x.scale(0, 1, 2), INVALID);
            holds("no number times an infinite power", x, 2, ENDLESS, 5L);
            due.same("no number by 0", x.remainder(0, 7, 3), INVALID);
            holds("no number by 0", x, 3, ENDLESS, 5L);
            due.same("an infinite one by no number", x.remainder(1, 0, 4), INVALID);
            holds("an infinite one by no number", x, 4, ENDLESS, 5L);
            put(x, 6, ONE, 1L);
            due.same("no number by an unnormal one", x.remainder(0, 6, 5), INVALID);
            holds("no number by an unnormal one", x, 5, ENDLESS, 5L);
        }

        due.sentence("(1) before (3)");
        for (int word : new int[] {INVALID, MASKS}) {
            RealSteps x = with(word, ENDLESS, 5L);
            put(x, 1, 0, 1L);
            due.same("no number and a denormal one", x.scale(0, 1, 2), INVALID);
            holds("no number and a denormal one", x, 2, ENDLESS, 5L);
            due.same("a denormal one and no number", x.remainder(1, 0, 3), INVALID);
            holds("a denormal one and no number", x, 3, ENDLESS, 5L);
            due.same("compare them", x.compare(1, 0), 2);
            tells("compare them", x, INVALID, 1);
        }
        RealSteps x = with(0, ENDLESS, 5L);
        put(x, 1, 0, 1L);
        due.same("neither masked", x.scale(0, 1, 2), INVALID);
        tells("neither masked", x, INVALID, 0);

        due.sentence("(2) before (3)");
        for (int word : new int[] {INVALID, MASKS}) {
            x = with(word, ENDLESS, HIGHEST_BIT);
            put(x, 1, 0, 1L);
            due.same("a denormal one times an infinite power", x.scale(1, 0, 2), INVALID);
            holdsIndefinite("a denormal one times an infinite power", x, 2);
            due.same("an infinite one by a denormal one", x.remainder(0, 1, 3), INVALID);
            holdsIndefinite("an infinite one by a denormal one", x, 3);
            due.same("a denormal one by 0", x.remainder(1, 7, 4), INVALID);
            holdsIndefinite("a denormal one by 0", x, 4);
            due.same("one infinite number and a denormal one", x.compare(0, 1), 2);
            tells("one infinite number and a denormal one", x, INVALID, 1);
        }
        x = with(0, ENDLESS, HIGHEST_BIT);
        put(x, 1, 0, 1L);
        due.same("neither masked", x.compare(0, 1), RealSteps.NO_ANSWER);
        tells("neither masked", x, INVALID, 0);
    }

    private interface Step {
        int run(RealSteps x);
    }

    /** The step is to answer this, to tell that and to have no answer; nothing else changes. */
    private void ends(String what, int want, int told, RealSteps x, Step step) {
        for (int r = 1; r < REGISTERS; r++) {
            putWhole(x, r, 7 * r);
        }
        x.remainder(7, 1, 6);
        long[] state = state(x);
        state[2 * REGISTERS] = told;
        state[2 * REGISTERS + 1] = 0;
        due.same(what, step.run(x), want);
        sameState(what, x, state);
    }

    /** A step with register 0 as given, and all masked but what is told. */
    private void ends(String what, int told, int top, long fraction, Step step) {
        ends(what, told, told, with(MASKS - told, top, fraction), step);
    }

    /** The same of compare and test, that do not answer what is told. */
    private void endsOrder(String what, int told, int top, long fraction, Step step) {
        ends(what, RealSteps.NO_ANSWER, told, with(MASKS - told, top, fraction), step);
    }

    private void endsAll(String what, int told, int top, long fraction) {
        ends("whole, " + what, told, top, fraction, x -> x.whole(0, 2));
        ends("scale, " + what, told, top, fraction, x -> x.scale(0, 1, 2));
        ends("scale, second, " + what, told, top, fraction, x -> x.scale(1, 0, 2));
        ends("extract, " + what, told, top, fraction, x -> x.extract(0, 2, 3));
        ends("remainder, " + what, told, top, fraction, x -> x.remainder(0, 1, 2));
        ends("remainder, second, " + what, told, top, fraction, x -> x.remainder(1, 0, 2));
        endsOrder("compare, " + what, told, top, fraction, x -> x.compare(0, 1));
        endsOrder("compare, second, " + what, told, top, fraction, x -> x.compare(1, 0));
        endsOrder("test, " + what, told, top, fraction, x -> x.test(0));
    }

    private void endOfStep() {
        due.sentence("What is told and not masked by (1) to (4) ends the step: then there is no answer, and"
                + " no register changes: (1)");
        endsAll("no number", INVALID, ENDLESS, 9L);

        due.sentence("What is told and not masked by (1) to (4) ends the step: (2)");
        ends("times an infinite power", INVALID, ENDLESS, 0L, x -> x.scale(1, 0, 2));
        ends("times a power of 2^14", INVALID, ONE + 14, HIGHEST_BIT, x -> x.scale(1, 0, 2));
        ends("an infinite one by 7", INVALID, ENDLESS, 0L, x -> x.remainder(0, 1, 2));
        ends("7 by 0", INVALID, 0, 0L, x -> x.remainder(1, 0, 2));
        ends("7 by an unnormal one", INVALID, ONE, 1L, x -> x.remainder(1, 0, 2));
        endsOrder("compare one infinite number", INVALID, ENDLESS, 0L, x -> x.compare(1, 0));
        endsOrder("test one infinite number", INVALID, ENDLESS, 0L, x -> x.test(0));

        due.sentence("What is told and not masked by (1) to (4) ends the step: (3)");
        endsAll("a denormal one", DENORMAL, 0, 9L);

        due.sentence("What is told and not masked by (1) to (4) ends the step: (4)");
        ends("extract 0", DIVISION, 0, 0L, x -> x.extract(0, 2, 3));
        ends("extract an unnormal 0", DIVISION, 77 + MINUS, 0L, x -> x.extract(0, 2, 3));
        ends("extract 0 over itself", DIVISION, MINUS, 0L, x -> x.extract(0, 0, 3));
    }

    private void unnormal() {
        due.sentence("UNNORMAL ones go by their sizes, nothing is told of them but as said");
        RealSteps x = with(0, 16446 + MINUS, 13L);
        putWhole(x, 1, 5);
        due.same("whole", x.whole(0, 2), 0);
        holdsWhole("whole", x, 2, -13);
        due.same("scale", x.scale(0, 1, 2), 0);
        holdsWhole("scale", x, 2, -13 * 32);
        due.same("scale by it", x.scale(1, 0, 2), 0);
        holds("scale by it", x, 2, ONE + 2 - 13, 5L << 61);
        due.same("extract", x.extract(0, 2, 3), 0);
        holdsWhole("extract, the power", x, 2, 3);
        holds("extract, the fraction", x, 3, ONE + MINUS, 13L << 60);
        due.same("remainder", x.remainder(0, 1, 2), 0);
        holdsWhole("remainder", x, 2, -3);
        due.same("the quotient", x.told(2), 2);
        due.same("compare", x.compare(0, 1), -1);
        tells("compare", x, 0, 1);
        due.same("test", x.test(0), -1);
        tells("test", x, 0, 1);
        putWhole(x, 4, -13);
        due.same("compare with the same number", x.compare(4, 0), 0);
        put(x, 0, 1, 1L);
        due.same("a small one is not DENORMAL", x.test(0), 1);
        tells("a small one is not DENORMAL", x, 0, 1);
        put(x, 0, 300, 0L);
        due.same("of the size 0", x.test(0), 0);
        tells("of the size 0", x, 0, 1);
        due.same("scale by the size 0", x.scale(1, 0, 2), 0);
        holdsWhole("scale by the size 0", x, 2, 5);
    }
}
