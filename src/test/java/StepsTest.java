/**
 * What the document's 'Terms' say of each step: WHOLE, SCALE, EXTRACT, REMAINDER, COMPARE and TEST. Each
 * test begins with the sentence that it is of.
 */
public final class StepsTest extends Bench {
    public static void main(String[] args) {
        new StepsTest().run();
    }

    private void run() {
        runAll(
                this::wholeInfinite,
                this::wholeFinite,
                this::scaleImpossible,
                this::scale,
                this::extractInfinite,
                this::extractNought,
                this::extractPower,
                this::extractNoNumber,
                this::remainderImpossible,
                this::remainderNoQuotient,
                this::remainderApart,
                this::remainderWhole,
                this::remainderPartial,
                this::remainderNothingLeft,
                this::compareImpossible,
                this::compareFinite,
                this::compareInfinite,
                this::compareMasked,
                this::test);
    }

    // WHOLE

    private void wholeInfinite() {
        due.sentence("WHOLE: an infinite one is itself");
        for (int sign : SIGNS) {
            for (long fraction : new long[] {0L, HIGHEST_BIT}) {
                RealSteps x = with(0, ENDLESS + sign, fraction);
                due.same("whole", x.whole(0, 1), 0);
                holds("whole", x, 1, ENDLESS + sign, fraction);
                tells("whole", x, 0, 1);
            }
        }
    }

    private void wholeFinite() {
        due.sentence("otherwise its number rounded to the unit 1 is made");
        for (int rounding : ROUNDINGS) {
            RealSteps x = with(MASKS + rounding, ONE + 63, HIGHEST_BIT + 1);
            due.same("2^63 + 1", x.whole(0, 1), 0);
            holds("2^63 + 1", x, 1, ONE + 63, HIGHEST_BIT + 1);
            put(x, 0, 32766, ALL_BITS);
            due.same("the greatest", x.whole(0, 1), 0);
            holds("the greatest", x, 1, 32766, ALL_BITS);
            put(x, 0, 32766, 1L);
            due.same("a great unnormal one", x.whole(0, 1), 0);
            holds("a great unnormal one", x, 1, 32703, HIGHEST_BIT);
            put(x, 0, 16446, 3L);
            due.same("an unnormal 3", x.whole(0, 1), 0);
            holdsWhole("an unnormal 3", x, 1, 3);
            put(x, 0, 16445, 3L);
            due.same("an unnormal 3/2", x.whole(0, 1), LOSS);
            holdsWhole("an unnormal 3/2", x, 1, rounding == NEAREST || rounding == UP ? 2 : 1);
            put(x, 0, 0, 1L);
            due.same("the least", x.whole(0, 1), DENORMAL + LOSS);
            holdsWhole("the least", x, 1, rounding == UP ? 1 : 0);
        }

        due.sentence("(with its sign, also when it is 0)");
        RealSteps x = with(MASKS, MINUS, 0L);
        due.same("-0", x.whole(0, 1), 0);
        holds("-0", x, 1, MINUS, 0L);
        put(x, 0, ONE - 1 + MINUS, HIGHEST_BIT);
        due.same("-1/2", x.whole(0, 1), LOSS);
        holds("-1/2", x, 1, MINUS, 0L);
        put(x, 0, 500 + MINUS, 0L);
        due.same("an unnormal -0", x.whole(0, 1), 0);
        holds("an unnormal -0", x, 1, MINUS, 0L);
        x.control(MASKS + UP);
        put(x, 0, ONE - 1 + MINUS, ALL_BITS);
        due.same("nearly -1 up", x.whole(0, 1), LOSS);
        holds("nearly -1 up", x, 1, MINUS, 0L);
        x.control(MASKS + DOWN);
        put(x, 0, ONE - 1, ALL_BITS);
        due.same("nearly 1 down", x.whole(0, 1), LOSS);
        holds("nearly 1 down", x, 1, 0, 0L);

        due.sentence("and LOSS is told when that is another number");
        x.control(MASKS);
        putWhole(x, 0, 1);
        due.same("1", x.whole(0, 1), 0);
        put(x, 0, ONE, HIGHEST_BIT + 1);
        due.same("1 and 2^-63", x.whole(0, 1), LOSS);
        put(x, 0, ONE + 62, HIGHEST_BIT + 1);
        due.same("2^62 + 1/2", x.whole(0, 1), LOSS);
        put(x, 0, ONE + 62, HIGHEST_BIT + 2);
        due.same("2^62 + 1", x.whole(0, 1), 0);
        put(x, 0, ONE + 200, HIGHEST_BIT + 1);
        due.same("2^200 + 2^137", x.whole(0, 1), 0);
        put(x, 0, 1, 0L);
        due.same("an unnormal 0", x.whole(0, 1), 0);
    }

    // SCALE

    private void scaleIs(String what, int told, int top, long fraction, int want) {
        for (int sign : SIGNS) {
            RealSteps x = with(INVALID + OVER + UNDER, ONE, HIGHEST_BIT);
            put(x, 1, top + sign, fraction);
            due.same(what, x.scale(0, 1, 2), told);
            if (told == INVALID) {
                holdsIndefinite(what, x, 2);
            } else {
                holds(what, x, 2, ONE + (sign == 0 ? want : -want), HIGHEST_BIT);
            }
        }
    }

    private void scaleImpossible() {
        due.sentence("SCALE of a and b: b infinite can't be");
        scaleIs("by an infinite one", INVALID, ENDLESS, HIGHEST_BIT, 0);
        scaleIs("by an infinite one, f 0", INVALID, ENDLESS, 0L, 0);

        due.sentence("or of a size of 2^14 or more, can't be");
        scaleIs("by 2^14", INVALID, ONE + 14, HIGHEST_BIT, 0);
        scaleIs("by more than 2^14", INVALID, ONE + 14, HIGHEST_BIT + 1, 0);
        scaleIs("by 2^15", INVALID, ONE + 15, HIGHEST_BIT, 0);
        scaleIs("by the greatest", INVALID, 32766, ALL_BITS, 0);
        scaleIs("by an unnormal 2^14", INVALID, 16446, 1L << 14, 0);
        scaleIs("by a great unnormal one", INVALID, 32766, 1L, 0);
        scaleIs("by an unnormal one below 2^14", 0, 16446, (1L << 13) - 1, (1 << 13) - 1);
        scaleIs("by an unnormal 0 of a great power", 0, 32766, 0L, 0);
        RealSteps x = with(OVER + UNDER, ONE, HIGHEST_BIT);
        put(x, 1, ONE + 13, ALL_BITS);
        due.same("1 by just below 2^14", x.scale(0, 1, 2), 0);
        holds("2^16383", x, 2, 32766, HIGHEST_BIT);
        x.turn(1, false);
        put(x, 0, ONE + 1, HIGHEST_BIT);
        due.same("2 by just above -2^14", x.scale(0, 1, 2), 0);
        holds("2^-16382", x, 2, 1, HIGHEST_BIT);
        x = with(INVALID, ENDLESS, HIGHEST_BIT);
        putWhole(x, 1, 1 << 14);
        due.same("an infinite one by 2^14", x.scale(0, 1, 2), INVALID);
        holdsIndefinite("an infinite one by 2^14", x, 2);
        due.same("0 by 2^14", x.scale(7, 1, 3), INVALID);
        holdsIndefinite("0 by 2^14", x, 3);
        due.same("an infinite one by an infinite one", x.scale(0, 0, 4), INVALID);
        holdsIndefinite("an infinite one by an infinite one", x, 4);
    }

    private void scale() {
        due.sentence("An infinite a is itself.");
        for (int sign : SIGNS) {
            for (long fraction : new long[] {0L, HIGHEST_BIT}) {
                RealSteps x = with(0, ENDLESS + sign, fraction);
                for (int n : new int[] {0, 16383, -16383}) {
                    putWhole(x, 1, n);
                    due.same("by 2^" + n, x.scale(0, 1, 2), 0);
                    holds("by 2^" + n, x, 2, ENDLESS + sign, fraction);
                }
            }
        }

        due.sentence("Otherwise a's number times 2^n is made, n being b's number");
        for (int sign : SIGNS) {
            for (int n = -8192; n <= 8192; n += 128) {
                RealSteps x = with(0, ONE + sign, 5L << 61);
                putWhole(x, 1, n);
                due.same("5/4 by 2^" + n, x.scale(0, 1, 0), 0);
                holds("5/4 by 2^" + n, x, 0, ONE + n + sign, 5L << 61);
            }
        }
        RealSteps x = with(0, ONE + MINUS, 3L << 62);
        due.same("by 2^0", x.scale(0, 7, 2), 0);
        holds("by 2^0", x, 2, ONE + MINUS, 3L << 62);

        due.sentence("cut off towards 0");
        for (int rounding : ROUNDINGS) {
            cutOff(rounding, ONE - 1, ALL_BITS, 0);
            cutOff(rounding, ONE - 1, HIGHEST_BIT, 0);
            cutOff(rounding, 1, HIGHEST_BIT, 0);
            cutOff(rounding, 0, ALL_BITS, 0);
            cutOff(rounding, 0, 1L, 0);
            cutOff(rounding, ONE, ALL_BITS, 1);
            cutOff(rounding, ONE, 3L << 62, 1);
            cutOff(rounding, ONE + 1, ALL_BITS, 3);
            cutOff(rounding, ONE + 12, ALL_BITS, 8191);
            cutOff(rounding, 16445, 3L, 1);
        }
    }

    private void cutOff(int rounding, int top, long fraction, int want) {
        for (int sign : SIGNS) {
            RealSteps x = with(DENORMAL + rounding, ONE, HIGHEST_BIT);
            put(x, 1, top + sign, fraction);
            String what = "by 2 to " + (top + sign) + " " + Long.toHexString(fraction);
            due.same(what, x.scale(0, 1, 2), top == 0 ? DENORMAL : 0);
            holds(what, x, 2, ONE + (sign == 0 ? want : -want), HIGHEST_BIT);
        }
    }

    // EXTRACT

    private void extractInfinite() {
        due.sentence("EXTRACT: an infinite one gives the power infinite (without sign, f 2^63) and itself as"
                + " fraction");
        for (int sign : SIGNS) {
            for (long fraction : new long[] {0L, HIGHEST_BIT}) {
                RealSteps x = with(0, ENDLESS + sign, fraction);
                due.same("extract", x.extract(0, 1, 2), 0);
                tells("extract", x, 0, 1);
                holds("the power", x, 1, ENDLESS, HIGHEST_BIT);
                holds("the fraction", x, 2, ENDLESS + sign, fraction);
            }
        }
    }

    private void extractNought() {
        due.sentence("a number 0: DIVISION; masked the power is infinite with the sign -, the fraction ZERO"
                + " with its sign");
        for (int sign : SIGNS) {
            for (int power : new int[] {0, 1, ONE, 32766}) {
                RealSteps x = with(DIVISION, power + sign, 0L);
                due.same("extract", x.extract(0, 1, 2), DIVISION);
                tells("extract", x, DIVISION, 1);
                holds("the power", x, 1, ENDLESS + MINUS, HIGHEST_BIT);
                holds("the fraction", x, 2, sign, 0L);
            }
        }
    }

    private void extracted(int top, long fraction, long power, long wantFraction) {
        for (int sign : SIGNS) {
            RealSteps x = with(MASKS, top + sign, fraction);
            String what = "extract " + (top + sign) + " " + Long.toHexString(fraction);
            due.same(what, x.extract(0, 1, 2), top == 0 ? DENORMAL : 0);
            holdsWhole(what + ", the power", x, 1, power);
            holds(what + ", the fraction", x, 2, ONE + sign, wantFraction);
        }
    }

    private void extractPower() {
        due.sentence("Otherwise the power is k, made");
        extracted(ONE, HIGHEST_BIT, 0, HIGHEST_BIT);
        extracted(ONE, ALL_BITS, 0, ALL_BITS);
        extracted(ONE + 1, HIGHEST_BIT, 1, HIGHEST_BIT);
        extracted(ONE - 1, HIGHEST_BIT, -1, HIGHEST_BIT);
        extracted(ONE - 1, ALL_BITS, -1, ALL_BITS);
        extracted(32766, ALL_BITS, 16383, ALL_BITS);
        extracted(1, HIGHEST_BIT, -16382, HIGHEST_BIT);
        extracted(0, HIGHEST_BIT, -16382, HIGHEST_BIT);
        extracted(0, Long.MAX_VALUE, -16383, -2L);
        extracted(0, 1L, -16445, HIGHEST_BIT);
        extracted(1, 1L, -16445, HIGHEST_BIT);
        extracted(2, 1L, -16444, HIGHEST_BIT);
        extracted(32766, 1L, 16320, HIGHEST_BIT);
        extracted(16446, 1L, 0, HIGHEST_BIT);
        extracted(16445, 1L, -1, HIGHEST_BIT);

        due.sentence("and the fraction is its number by 2^k, made");
        extracted(ONE + 9, 3L << 62, 9, 3L << 62);
        extracted(16446, 7L, 2, 7L << 61);
        extracted(16400, Long.MAX_VALUE, 16, -2L);
        extracted(0, 5L, -16443, 5L << 61);
        RealSteps x = with(0, 32766, ALL_BITS);
        due.same("neither OVER", x.extract(0, 1, 2), 0);
        put(x, 0, 1, 1L);
        due.same("nor UNDER", x.extract(0, 1, 2), 0);
    }

    private void extractNoNumber() {
        due.sentence("(No number: both are it.)");
        for (int sign : SIGNS) {
            RealSteps x = with(INVALID, ENDLESS + sign, 77L);
            due.same("extract", x.extract(0, 3, 4), INVALID);
            holds("the power", x, 3, ENDLESS + sign, 77L);
            holds("the fraction", x, 4, ENDLESS + sign, 77L);
        }
    }

    // REMAINDER

    private void remainderCant(String what, RealSteps x, int a, int b) {
        due.same(what, x.remainder(a, b, 5), INVALID);
        tells(what, x, INVALID, 1);
        holdsIndefinite(what, x, 5);
        put(x, 5, 3, 3L);
    }

    private void remainderImpossible() {
        due.sentence("REMAINDER of a and b: a infinite can't be");
        for (int sign : SIGNS) {
            for (long fraction : new long[] {0L, HIGHEST_BIT}) {
                RealSteps x = with(INVALID, ENDLESS + sign, fraction);
                putWhole(x, 1, 3);
                remainderCant("an infinite one by 3", x, 0, 1);
                remainderCant("an infinite one by itself", x, 0, 0);
                remainderCant("an infinite one by 0", x, 0, 7);
            }
        }

        due.sentence("or b of the number 0 can't be");
        for (int sign : SIGNS) {
            for (int power : new int[] {0, 1, ONE, 32766}) {
                RealSteps x = with(INVALID, power + sign, 0L);
                putWhole(x, 1, 3);
                remainderCant("3 by 0", x, 1, 0);
                remainderCant("0 by 0", x, 7, 0);
                remainderCant("0 by itself", x, 0, 0);
            }
        }

        due.sentence("or UNNORMAL, can't be");
        for (int sign : SIGNS) {
            for (int power : new int[] {1, ONE, 32766}) {
                for (long fraction : new long[] {1L, Long.MAX_VALUE}) {
                    RealSteps x = with(INVALID + UNDER, power + sign, fraction);
                    putWhole(x, 1, 3);
                    remainderCant("3 by an unnormal one", x, 1, 0);
                    remainderCant("0 by an unnormal one", x, 7, 0);
                    remainderCant("an unnormal one by itself", x, 0, 0);
                    put(x, 2, ENDLESS, 0L);
                    due.same("an unnormal one by an infinite one", x.remainder(0, 2, 3), 0);
                }
            }
        }
        RealSteps x = with(0, 16446 + MINUS, 7L);
        putWhole(x, 1, 4);
        due.same("an unnormal -7 by 4", x.remainder(0, 1, 2), 0);
        holdsWhole("an unnormal -7 by 4", x, 2, -3);
    }

    private void quotient(String what, RealSteps x, int bits, int partial) {
        due.same(what + ", the quotient's bits", x.told(2), bits);
        due.same(what + ", partial", x.told(3), partial);
    }

    /** After a remainder with the quotient 2^63 + 5, cut off, that is PARTIAL. */
    private static RealSteps withQuotient(int control) {
        RealSteps x = with(control, ONE + 100, HIGHEST_BIT + 5);
        putWhole(x, 1, 1);
        x.remainder(0, 1, 2);
        return x;
    }

    private void remainderNoQuotient() {
        due.sentence("With b infinite the quotient q is 0, and a's number is made.");
        for (int sign : SIGNS) {
            RealSteps x = withQuotient(MASKS);
            quotient("before", x, 5, 1);
            put(x, 3, ENDLESS + sign, sign == 0 ? 0L : HIGHEST_BIT);
            putWhole(x, 0, -7);
            due.same("-7", x.remainder(0, 3, 4), 0);
            holdsWhole("-7", x, 4, -7);
            quotient("-7", x, 0, 0);
            x = withQuotient(MASKS);
            put(x, 3, ENDLESS + sign, HIGHEST_BIT);
            put(x, 0, 16446, 7L);
            due.same("an unnormal 7", x.remainder(0, 3, 4), 0);
            holdsWhole("an unnormal 7", x, 4, 7);
            put(x, 0, 32766, ALL_BITS);
            due.same("the greatest", x.remainder(0, 3, 4), 0);
            holds("the greatest", x, 4, 32766, ALL_BITS);
            put(x, 0, MINUS, 7L);
            due.same("a denormal one", x.remainder(0, 3, 4), DENORMAL);
            holds("a denormal one", x, 4, MINUS, 7L);
            quotient("a denormal one", x, 0, 0);
        }

        due.sentence("With a's number 0, the quotient q is 0, and a's number is made.");
        for (int sign : SIGNS) {
            for (int power : new int[] {0, 1, ONE, 32766}) {
                RealSteps x = withQuotient(MASKS);
                put(x, 0, power + sign, 0L);
                due.same("0 by 1", x.remainder(0, 1, 4), 0);
                holds("0 by 1", x, 4, sign, 0L);
                quotient("0 by 1", x, 0, 0);
                x = withQuotient(MASKS);
                put(x, 0, power + sign, 0L);
                put(x, 1, MINUS, 1L);
                due.same("0 by a denormal one", x.remainder(0, 1, 4), DENORMAL);
                holds("0 by a denormal one", x, 4, sign, 0L);
                quotient("0 by a denormal one", x, 0, 0);
            }
        }
    }

    private void remainderApart() {
        due.sentence("Otherwise let d be a's k less b's k. For d below 64");
        RealSteps x = with(MASKS, ONE + 63, HIGHEST_BIT);
        putWhole(x, 1, 1);
        due.same("2^63 by 1", x.remainder(0, 1, 2), 0);
        holdsWhole("2^63 by 1", x, 2, 0);
        quotient("2^63 by 1", x, 0, 0);
        put(x, 0, ONE + 64, HIGHEST_BIT);
        due.same("2^64 by 1", x.remainder(0, 1, 2), 0);
        quotient("2^64 by 1", x, 0, 1);
        put(x, 0, ONE + 63, ALL_BITS);
        due.same("2^64 - 1 by 1", x.remainder(0, 1, 2), 0);
        quotient("2^64 - 1 by 1", x, 7, 0);
        put(x, 1, ONE, ALL_BITS);
        put(x, 0, ONE + 64, HIGHEST_BIT);
        due.same("a quotient below 2^64, d 64", x.remainder(0, 1, 2), 0);
        quotient("a quotient below 2^64, d 64", x, 0, 1);
        put(x, 0, 16447, HIGHEST_BIT >>> 1);
        putWhole(x, 1, 1);
        due.same("d by k, not by p", x.remainder(0, 1, 2), 0);
        quotient("d by k, not by p", x, 0, 0);
        put(x, 0, 64, HIGHEST_BIT);
        put(x, 1, 0, 1L);
        due.same("d 126 above a denormal one", x.remainder(0, 1, 2), DENORMAL);
        quotient("d 126 above a denormal one", x, 0, 1);
        put(x, 0, 1, ALL_BITS);
        due.same("d 63 above a denormal one", x.remainder(0, 1, 2), DENORMAL);
        quotient("d 63 above a denormal one", x, 7, 0);
        put(x, 0, 2, ALL_BITS);
        due.same("d 64 above a denormal one", x.remainder(0, 1, 2), DENORMAL);
        quotient("d 64 above a denormal one", x, 7, 1);
        putWhole(x, 0, 1);
        putWhole(x, 1, 2);
        due.same("d -1", x.remainder(0, 1, 2), 0);
        holdsWhole("d -1", x, 2, 1);
        quotient("d -1", x, 0, 0);
        put(x, 0, 1, HIGHEST_BIT);
        put(x, 1, 32766, HIGHEST_BIT);
        due.same("d as low as can be", x.remainder(0, 1, 2), 0);
        holds("d as low as can be", x, 2, 1, HIGHEST_BIT);
        quotient("d as low as can be", x, 0, 0);
    }

    private void left(long a, long b, long want, int bits) {
        for (int sign : SIGNS) {
            for (int rounding : ROUNDINGS) {
                RealSteps x = with(rounding);
                putWhole(x, 0, a);
                putWhole(x, 1, b);
                x.set(1, x.part(1, 0) ^ sign, x.part(1, 1), x.part(1, 2));
                String what = a + " by " + b + ", the sign " + sign;
                due.same(what, x.remainder(0, 1, 2), 0);
                holdsWhole(what, x, 2, want);
                quotient(what, x, bits, 0);
            }
        }
    }

    private void remainderWhole() {
        due.sentence("q is a's size by b's, cut off");
        left(5, 6, 5, 0);
        left(7, 4, 3, 1);
        left(6, 4, 2, 1);
        left(11, 2, 1, 5);
        left(23, 3, 2, 7);
        left(25, 3, 1, 0);
        left(47, 3, 2, 7);
        left(Long.MAX_VALUE, 2, 1, 7);
        left(Long.MAX_VALUE, 10, 7, 4);

        due.sentence("a's size less q times b's, with a's sign, is made.");
        left(-5, 6, -5, 0);
        left(-7, 4, -3, 1);
        left(-23, 3, -2, 7);
        left(-Long.MAX_VALUE, 10, -7, 4);
        RealSteps x = with(MASKS - UNDER, 1, HIGHEST_BIT + 1);
        put(x, 1, 1, HIGHEST_BIT);
        due.same("2^-16445 is left, UNDER not masked", x.remainder(0, 1, 2), UNDER);
        tells("2^-16445 is left, UNDER not masked", x, UNDER, 1);
        holds("2^-16445 is left, UNDER not masked", x, 2, ONE - 16445 + 24576, HIGHEST_BIT);
        quotient("2^-16445 is left, UNDER not masked", x, 1, 0);
        x.control(MASKS);
        due.same("2^-16445 is left", x.remainder(0, 1, 2), 0);
        holds("2^-16445 is left", x, 2, 0, 1L);
    }

    /** With a size of a times 2^k, by 3 * 2^62 as a fraction. */
    private void leftPartial(String what, int k, long fraction, int bits, int wantTop, long wantFraction) {
        for (int sign : SIGNS) {
            for (int rounding : ROUNDINGS) {
                RealSteps x = with(rounding, ONE + k + sign, fraction);
                putWhole(x, 1, 3);
                due.same(what, x.remainder(0, 1, 2), 0);
                holds(what, x, 2, wantTop + sign, wantFraction);
                quotient(what, x, bits, 1);
            }
        }
    }

    private void remainderPartial() {
        due.sentence("For others q is a's size by b's size times 2^(d - 63), cut off; a's size less q times"
                + " that, with a's sign, is made");
        // d is 64: by 6, the quotient is 6148914691236517205, 2 are left.
        leftPartial("2^65 by 3", 65, HIGHEST_BIT, 5, ONE + 1, HIGHEST_BIT);
        // d is 65: by 12, the same quotient, 4 are left.
        leftPartial("2^66 by 3", 66, HIGHEST_BIT, 5, ONE + 2, HIGHEST_BIT);
        // d is 72: by 3 * 2^9, the quotient is 2 * (2^64 - 1) / 3, nothing is left.
        leftPartial("(2^64 - 1) * 2^10 by 3", 73, ALL_BITS, 2, 0, 0L);
        // d is 162: by 3 * 2^99, the quotient is (2^64 + 2) / 3, nothing is left.
        leftPartial("(2^63 + 1) * 2^100 by 3", 163, HIGHEST_BIT + 1, 6, 0, 0L);
        // The same quotient, cut off: 2 * 2^99 are left.
        leftPartial("(2^63 + 2) * 2^100 by 3", 163, HIGHEST_BIT + 2, 6, ONE + 100, HIGHEST_BIT);
        leftPartial("2^16383 by 3", 16383, HIGHEST_BIT, 5, ONE + 16383 - 64, HIGHEST_BIT);

        due.sentence("and the step is PARTIAL");
        RealSteps x = with(MASKS, 32766, ALL_BITS);
        put(x, 1, 0, 1L);
        due.same("the greatest by the least", x.remainder(0, 1, 2), DENORMAL);
        quotient("the greatest by the least", x, 7, 1);
        put(x, 0, 1, 3L << 62);
        due.same("d below 64", x.remainder(0, 1, 2), DENORMAL);
        quotient("d below 64", x, 0, 0);
    }

    private void remainderNothingLeft() {
        due.sentence("(When nothing is left ZERO with a's sign.)");
        for (int sign : SIGNS) {
            for (int other : SIGNS) {
                RealSteps x = with(DOWN, ONE + 2 + sign, 3L << 62);
                put(x, 1, ONE + 1 + other, 3L << 62);
                due.same("6 by 3", x.remainder(0, 1, 2), 0);
                holds("6 by 3", x, 2, sign, 0L);
                quotient("6 by 3", x, 2, 0);
                put(x, 1, ONE + 2 + other, 3L << 62);
                due.same("6 by 6", x.remainder(0, 1, 2), 0);
                holds("6 by 6", x, 2, sign, 0L);
                quotient("6 by 6", x, 1, 0);
                put(x, 0, ONE + 102 + sign, 3L << 62);
                due.same("6 * 2^100 by 6", x.remainder(0, 1, 2), 0);
                holds("6 * 2^100 by 6", x, 2, sign, 0L);
                quotient("6 * 2^100 by 6", x, 0, 1);
            }
        }
    }

    // COMPARE and TEST

    private void compareImpossible() {
        due.sentence("COMPARE of a and b: with the VIEW 0, when one is infinite and the other not, it can't be");
        for (int sign : SIGNS) {
            for (long fraction : new long[] {0L, HIGHEST_BIT}) {
                for (int word : new int[] {INVALID, INVALID + 0xefc0}) {
                    RealSteps x = with(word, ENDLESS + sign, fraction);
                    put(x, 1, 32766, ALL_BITS);
                    due.same("an infinite one and the greatest", x.compare(0, 1), 2);
                    tells("an infinite one and the greatest", x, INVALID, 1);
                    due.same("0 and an infinite one", x.compare(7, 0), 2);
                    tells("0 and an infinite one", x, INVALID, 1);
                }
            }
        }
    }

    private void compareFinite() {
        due.sentence("The answer is -1, 0 or 1 as a's number is below, the same as, or above b's");
        int[] tops = {
            32766 + MINUS, 32766 + MINUS, ONE + 1 + MINUS, ONE + MINUS, ONE + MINUS, 1 + MINUS, 1 + MINUS,
            0, 1, 1, 2, ONE - 1, ONE, ONE, ONE, ONE + 1, 32766, 32766
        };
        long[] fractions = {
            ALL_BITS, HIGHEST_BIT, HIGHEST_BIT, HIGHEST_BIT + 1, HIGHEST_BIT, HIGHEST_BIT, 1L,
            0L, 1L, HIGHEST_BIT, HIGHEST_BIT, ALL_BITS, HIGHEST_BIT, HIGHEST_BIT + 1, ALL_BITS,
            HIGHEST_BIT, HIGHEST_BIT, ALL_BITS
        };
        for (int i = 0; i < tops.length; i++) {
            for (int j = 0; j < tops.length; j++) {
                for (int word : new int[] {0, VIEW}) {
                    RealSteps x = with(word, tops[i], fractions[i]);
                    put(x, 1, tops[j], fractions[j]);
                    due.same("compare row " + i + " and row " + j, x.compare(0, 1), Integer.compare(i, j));
                    tells("compare row " + i + " and row " + j, x, 0, 1);
                }
            }
        }

        due.sentence("zeros of any kind and sign are the same");
        int[] zeros = {0, MINUS, 1, 1 + MINUS, 16446, 32766, 32766 + MINUS};
        for (int top : zeros) {
            for (int other : zeros) {
                RealSteps x = with(0, top, 0L);
                put(x, 1, other, 0L);
                due.same("zeros of " + top + " and " + other, x.compare(0, 1), 0);
                tells("zeros of " + top + " and " + other, x, 0, 1);
            }
        }
    }

    private void compareInfinite() {
        due.sentence("with the VIEW 1 infinite ones are beyond all others of their sign");
        for (long fraction : new long[] {0L, HIGHEST_BIT}) {
            RealSteps x = with(VIEW, ENDLESS, fraction);
            put(x, 1, ENDLESS + MINUS, fraction);
            int[] others = {32766, 32766 + MINUS, 1, 0, MINUS};
            for (int top : others) {
                put(x, 2, top, top == 0 || top == MINUS ? 0L : ALL_BITS);
                due.same("above " + top, x.compare(0, 2), 1);
                due.same(top + " below", x.compare(2, 0), -1);
                due.same("below " + top, x.compare(1, 2), -1);
                due.same(top + " above", x.compare(2, 1), 1);
                tells("two infinite ones", x, 0, 1);
            }
            due.same("the one with the sign - below the other", x.compare(1, 0), -1);
            due.same("the other above it", x.compare(0, 1), 1);
            put(x, 2, ENDLESS, HIGHEST_BIT - fraction);
            due.same("of one sign, the highest bit no matter", x.compare(0, 2), 0);
            put(x, 2, ENDLESS + MINUS, HIGHEST_BIT - fraction);
            due.same("of the sign -, the highest bit no matter", x.compare(2, 1), 0);
        }

        due.sentence("with 0 two infinite ones are the same");
        for (int sign : SIGNS) {
            for (int other : SIGNS) {
                RealSteps x = with(0, ENDLESS + sign, HIGHEST_BIT);
                put(x, 1, ENDLESS + other, 0L);
                due.same("two infinite ones", x.compare(0, 1), 0);
                tells("two infinite ones", x, 0, 1);
                due.same("the other way", x.compare(1, 0), 0);
                due.same("with itself", x.compare(1, 1), 0);
            }
        }
    }

    private void compareMasked() {
        due.sentence("In (1) and (2), masked, it is 2.");
        for (int word : new int[] {INVALID, INVALID + VIEW}) {
            RealSteps x = with(word, ENDLESS, 1L);
            put(x, 1, ENDLESS + MINUS, 1L);
            put(x, 2, ENDLESS, 0L);
            due.same("no number and 0", x.compare(0, 7), 2);
            due.same("0 and no number", x.compare(7, 1), 2);
            due.same("no number and itself", x.compare(0, 0), 2);
            due.same("no number and an infinite one", x.compare(0, 2), 2);
            due.same("an infinite one and no number", x.compare(2, 1), 2);
            tells("an infinite one and no number", x, INVALID, 1);
        }
        RealSteps x = with(INVALID, ENDLESS, 0L);
        due.same("an infinite one and 0", x.compare(0, 7), 2);
        tells("an infinite one and 0", x, INVALID, 1);
    }

    private void test() {
        due.sentence("TEST is COMPARE with ZERO.");
        int[] tops = {0, MINUS, 0, MINUS, 1, 9 + MINUS, ONE, ONE + MINUS, 700, 700 + MINUS, ENDLESS,
            ENDLESS + MINUS, ENDLESS, ENDLESS + MINUS};
        long[] fractions = {0L, 0L, 1L, ALL_BITS, 0L, 0L, HIGHEST_BIT, ALL_BITS, 1L, Long.MAX_VALUE, 0L,
            HIGHEST_BIT, 1L, ALL_BITS};
        int[] want = {0, 0, 1, -1, 0, 0, 1, -1, 1, -1, 1, -1, 2, 2};
        for (int i = 0; i < tops.length; i++) {
            for (int word : new int[] {0, INVALID, DENORMAL, MASKS, VIEW, VIEW + MASKS}) {
                RealSteps x = with(word, tops[i], fractions[i]);
                String what = tops[i] + " " + Long.toHexString(fractions[i]) + ", control " + word;
                int answer = x.compare(0, 7);
                int told = x.told(0);
                due.same("test " + what, x.test(0), answer);
                tells("test " + what, x, told, answer == RealSteps.NO_ANSWER ? 0 : 1);
                if (word == VIEW + MASKS) {
                    due.same("test with two infinite ones and all masked " + what, answer, want[i]);
                }
            }
        }
        RealSteps x = with(INVALID, ENDLESS, 0L);
        for (int r = 1; r < REGISTERS; r++) {
            putWhole(x, r, -r);
        }
        due.same("one infinite number", x.test(0), 2);
        due.same("no register is asked for ZERO", x.test(7), -1);
    }
}
