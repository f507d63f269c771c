/**
 * Single steps with reals of eighty bits, held in eight registers.
 *
 * <p>What a step tells and whether it has an answer is kept until the next step; a call that throws
 * changes nothing.
 */
public final class RealSteps {
    public static final int NONE = -1;
    public static final int NO_ANSWER = 3;

    private static final int REGISTERS = 8;
    private static final int FIRST_CONTROL = 0x03ff;
    private static final int SIXTEEN_BITS = 0xffff;

    private static final int INVALID = 1;
    private static final int DENORMAL = 2;
    private static final int DIVISION = 4;
    private static final int OVER = 8;
    private static final int UNDER = 16;
    private static final int LOSS = 32;

    private static final int ROUNDING_PLACE = 10;
    private static final int ROUNDINGS = 3;
    private static final int DOWN = 1;
    private static final int UP = 2;
    private static final int TOWARDS_ZERO = 3;
    private static final int VIEW = 1 << 12;

    private static final int SIGN = 0x8000;
    private static final int ENDLESS_POWER = 0x7fff;
    private static final int HIGHEST_PLACE = 63;
    private static final long HIGHEST_BIT = 1L << HIGHEST_PLACE;
    private static final long ALL_BITS = -1L;
    private static final long INDEFINITE_FRACTION = 3L << 62;

    /** The power of a NORMAL real is its exponent k more by this. */
    private static final int POWER_OF_ONE = 16383;
    /** A size is its fraction times 2 to the power less this. */
    private static final int UNIT_OF_POWER = 16446;
    private static final int LEAST_EXPONENT = -16382;
    private static final int GREATEST_EXPONENT = 16383;
    private static final int SHIFT_OF_UNMASKED = 24576;
    private static final int FIRST_EXPONENT_BEYOND_SCALE = 14;

    private static final int UNORDERED = 2;
    private static final int EXAMINED_SIGN = 2;

    private static final int[] CONSTANT_TOPS = {0, 0x3fff, 0x4000, 0x3fff, 0x4000, 0x3ffd, 0x3ffe};
    private static final long[] CONSTANT_FRACTIONS = {
        0L,
        0x8000000000000000L,
        0xd49a784bcd1b8afeL,
        0xb8aa3b295c17f0bcL,
        0xc90fdaa22168c235L,
        0x9a209a84fbcff799L,
        0xb17217f7d1cf79acL
    };

    private final int[] tops;
    private final long[] fractions;
    private int controlWord;
    private int toldBits;
    private boolean answered;
    private int quotientBits;
    private boolean partial;

    public RealSteps() {
        tops = new int[REGISTERS];
        fractions = new long[REGISTERS];
        controlWord = FIRST_CONTROL;
        toldBits = 0;
        answered = false;
        quotientBits = 0;
        partial = false;
    }

    public void control(int word) throws IllegalArgumentException {
        if (word < 0 || word > SIXTEEN_BITS) {
            throw new IllegalArgumentException("the control has 16 bits");
        }
        controlWord = word;
    }

    public void set(int r, int top, int high, int low)
            throws IndexOutOfBoundsException, IllegalArgumentException {
        needRegister(r);
        if (top < 0 || top > SIXTEEN_BITS) {
            throw new IllegalArgumentException("sign and power have 16 bits");
        }
        write(r, new Real(top, ((long) high << 32) | (low & 0xffffffffL)));
    }

    public int part(int r, int what) throws IndexOutOfBoundsException, IllegalArgumentException {
        needRegister(r);
        switch (what) {
            case 0:
                return tops[r];
            case 1:
                return (int) (fractions[r] >>> 32);
            case 2:
                return (int) fractions[r];
            default:
                throw new IllegalArgumentException("a real has the parts 0 to 2");
        }
    }

    public void turn(int r, boolean away) throws IndexOutOfBoundsException {
        needRegister(r);
        tops[r] = away ? tops[r] & ~SIGN : tops[r] ^ SIGN;
    }

    public void constant(int which, int to)
            throws IndexOutOfBoundsException, IllegalArgumentException {
        needRegister(to);
        if (which < 0 || which >= CONSTANT_TOPS.length || which >= CONSTANT_FRACTIONS.length) {
            throw new IllegalArgumentException("there is no such constant");
        }
        write(to, new Real(CONSTANT_TOPS[which], CONSTANT_FRACTIONS[which]));
    }

    public int whole(int a, int to) throws IndexOutOfBoundsException {
        needRegister(a);
        needRegister(to);
        Real x = read(a);
        if (goesOn(x, x, false, false)) {
            write(to, wholeOf(x));
        } else if (answered) {
            write(to, substitute(x, x));
        }
        return toldBits;
    }

    public int scale(int a, int b, int to) throws IndexOutOfBoundsException {
        needRegister(a);
        needRegister(b);
        needRegister(to);
        Real x = read(a);
        Real y = read(b);
        if (goesOn(x, y, isBeyondScale(y), false)) {
            write(to, scaled(x, y));
        } else if (answered) {
            write(to, substitute(x, y));
        }
        return toldBits;
    }

    public int extract(int a, int power, int fraction)
            throws IndexOutOfBoundsException, IllegalArgumentException {
        needRegister(a);
        needRegister(power);
        needRegister(fraction);
        if (power == fraction) {
            throw new IllegalArgumentException("power and fraction go into two registers");
        }
        Real x = read(a);
        if (goesOn(x, x, false, x.isNought())) {
            write(power, powerOf(x));
            write(fraction, fractionOf(x));
        } else if (answered) {
            write(power, substitute(x, x));
            write(fraction, substitute(x, x));
        }
        return toldBits;
    }

    public int remainder(int a, int b, int to) throws IndexOutOfBoundsException {
        needRegister(a);
        needRegister(b);
        needRegister(to);
        Real x = read(a);
        Real y = read(b);
        boolean impossible = x.isOf(Kind.INFINITE) || y.isNought() || y.isOf(Kind.UNNORMAL);
        if (goesOn(x, y, impossible, false)) {
            write(to, leftOver(x, y));
        } else if (answered) {
            write(to, substitute(x, y));
        }
        return toldBits;
    }

    public int compare(int a, int b) throws IndexOutOfBoundsException {
        needRegister(a);
        needRegister(b);
        return order(read(a), read(b));
    }

    public int test(int a) throws IndexOutOfBoundsException {
        needRegister(a);
        return order(read(a), zero(false));
    }

    public int examine(int a) throws IndexOutOfBoundsException {
        needRegister(a);
        Real x = read(a);
        return x.kind().examined + (x.isNegative() ? EXAMINED_SIGN : 0);
    }

    public int told(int what) throws IllegalArgumentException {
        switch (what) {
            case 0:
                return toldBits;
            case 1:
                return answered ? 1 : 0;
            case 2:
                return quotientBits;
            case 3:
                return partial ? 1 : 0;
            default:
                throw new IllegalArgumentException("0 to 3 can be asked");
        }
    }

    // Registers and control

    private static void needRegister(int r) {
        if (r < 0 || r >= REGISTERS) {
            throw new IndexOutOfBoundsException("there is no such register");
        }
    }

    private Real read(int r) {
        return new Real(tops[r], fractions[r]);
    }

    private void write(int r, Real real) {
        tops[r] = real.top;
        fractions[r] = real.fraction;
    }

    private int rounding() {
        return (controlWord >>> ROUNDING_PLACE) & ROUNDINGS;
    }

    private boolean isMasked(int bit) {
        return (controlWord & bit) != 0;
    }

    // What every step looks at first

    /**
     * Begins a step and looks at (1) to (4) of its order. When it does not go on, the answer is the
     * substitute, if there is one.
     */
    private boolean goesOn(Real x, Real y, boolean impossible, boolean division) {
        toldBits = 0;
        answered = true;
        if (x.isOf(Kind.NO_NUMBER) || y.isOf(Kind.NO_NUMBER) || impossible) {
            tellAtFirst(INVALID);
            return false;
        }
        if (x.isOf(Kind.DENORMAL) || y.isOf(Kind.DENORMAL)) {
            tellAtFirst(DENORMAL);
        }
        if (answered && division) {
            tellAtFirst(DIVISION);
        }
        return answered;
    }

    /** OVER, UNDER and LOSS never end a step, so they are told without this. */
    private void tellAtFirst(int bit) {
        toldBits |= bit;
        answered = isMasked(bit);
    }

    private static Real substitute(Real x, Real y) {
        boolean first = x.isOf(Kind.NO_NUMBER);
        boolean second = y.isOf(Kind.NO_NUMBER);
        if (first && second) {
            return greaterNoNumber(x, y);
        }
        if (first) {
            return x;
        }
        return second ? y : new Real(SIGN | ENDLESS_POWER, INDEFINITE_FRACTION);
    }

    private static Real greaterNoNumber(Real x, Real y) {
        if (x.fraction == y.fraction) {
            return x.isNegative() ? y : x;
        }
        return Long.compareUnsigned(x.fraction, y.fraction) > 0 ? x : y;
    }

    // Making and rounding

    private static int signOf(boolean negative) {
        return negative ? SIGN : 0;
    }

    private static Real zero(boolean negative) {
        return new Real(signOf(negative), 0L);
    }

    private static Real infinite(boolean negative) {
        return new Real(signOf(negative) | ENDLESS_POWER, HIGHEST_BIT);
    }

    private static Real normal(boolean negative, int exponent, long normalised) {
        return new Real(signOf(negative) | (exponent + POWER_OF_ONE), normalised);
    }

    /**
     * Makes a real of the size f (without a sign) times 2^unit. No step makes a size of more than 64
     * bits, so that rounding to 64 bits never changes it.
     */
    private Real make(boolean negative, long f, int unit) {
        if (f == 0L) {
            return zero(negative);
        }
        int empty = Long.numberOfLeadingZeros(f);
        long normalised = f << empty;
        int exponent = unit + HIGHEST_PLACE - empty;
        if (exponent < LEAST_EXPONENT) {
            return makeUnder(negative, exponent, normalised);
        }
        if (exponent > GREATEST_EXPONENT) {
            return makeOver(negative, exponent, normalised);
        }
        return normal(negative, exponent, normalised);
    }

    private Real makeUnder(boolean negative, int exponent, long normalised) {
        if (!isMasked(UNDER)) {
            toldBits |= UNDER;
            return normal(negative, exponent + SHIFT_OF_UNMASKED, normalised);
        }
        int shift = LEAST_EXPONENT - exponent;
        if (isCut(normalised, shift)) {
            toldBits |= UNDER | LOSS;
        }
        long rounded = rounded(negative, normalised, shift);
        // Rounded up to the highest bit it is the least NORMAL, whose power is 1.
        return new Real(signOf(negative) | (rounded < 0L ? 1 : 0), rounded);
    }

    private Real makeOver(boolean negative, int exponent, long normalised) {
        toldBits |= OVER;
        if (!isMasked(OVER)) {
            return normal(negative, exponent - SHIFT_OF_UNMASKED, normalised);
        }
        toldBits |= LOSS;
        int rounding = rounding();
        if (rounding == TOWARDS_ZERO || rounding == (negative ? UP : DOWN)) {
            return normal(negative, GREATEST_EXPONENT, ALL_BITS);
        }
        return infinite(negative);
    }

    /** Whether a fraction that is not 0 by 2^shift is no whole number; shift is 1 or more. */
    private static boolean isCut(long f, int shift) {
        return shift > HIGHEST_PLACE || f << (64 - shift) != 0L;
    }

    /** A fraction that is not 0 by 2^shift, rounded to a whole number; shift is 1 or more. */
    private long rounded(boolean negative, long f, int shift) {
        long kept = shift > HIGHEST_PLACE ? 0L : f >>> shift;
        if (!isCut(f, shift)) {
            return kept;
        }
        boolean away;
        switch (rounding()) {
            case DOWN:
                away = negative;
                break;
            case UP:
                away = !negative;
                break;
            case TOWARDS_ZERO:
                away = false;
                break;
            default:
                away = isNearerAbove(f, shift, kept);
                break;
        }
        return away ? kept + 1 : kept;
    }

    private static boolean isNearerAbove(long f, int shift, long kept) {
        if (shift > 64) {
            return false;
        }
        long rest = shift > HIGHEST_PLACE ? f : f - (kept << shift);
        long half = 1L << (shift - 1);
        if (rest == half) {
            return (kept & 1L) != 0L;
        }
        return Long.compareUnsigned(rest, half) > 0;
    }

    // The steps

    private Real wholeOf(Real x) {
        if (x.isOf(Kind.INFINITE)) {
            return x;
        }
        boolean negative = x.isNegative();
        int shift = HIGHEST_PLACE - x.exponent();
        if (x.isNought() || shift <= 0) {
            return make(negative, x.fraction, x.unit());
        }
        long normalised = x.normalised();
        if (isCut(normalised, shift)) {
            toldBits |= LOSS;
        }
        return make(negative, rounded(negative, normalised, shift), 0);
    }

    private static boolean isBeyondScale(Real y) {
        if (y.isNought()) {
            return false;
        }
        return y.isOf(Kind.INFINITE) || y.exponent() >= FIRST_EXPONENT_BEYOND_SCALE;
    }

    private Real scaled(Real x, Real y) {
        if (x.isOf(Kind.INFINITE)) {
            return x;
        }
        return make(x.isNegative(), x.fraction, x.unit() + cutOff(y));
    }

    /** The number of a real of a size below 2^14, cut off towards 0. */
    private static int cutOff(Real y) {
        int exponent = y.exponent();
        if (y.isNought() || exponent < 0) {
            return 0;
        }
        int size = (int) (y.normalised() >>> (HIGHEST_PLACE - exponent));
        return y.isNegative() ? -size : size;
    }

    private Real powerOf(Real x) {
        if (x.isOf(Kind.INFINITE)) {
            return infinite(false);
        }
        if (x.isNought()) {
            return infinite(true);
        }
        int exponent = x.exponent();
        return make(exponent < 0, Math.abs(exponent), 0);
    }

    private Real fractionOf(Real x) {
        if (x.isOf(Kind.INFINITE)) {
            return x;
        }
        return make(x.isNegative(), x.normalised(), -HIGHEST_PLACE);
    }

    private Real leftOver(Real x, Real y) {
        quotientBits = 0;
        partial = false;
        boolean negative = x.isNegative();
        int apart = x.exponent() - y.exponent();
        if (y.isOf(Kind.INFINITE) || x.isNought() || apart < 0) {
            return make(negative, x.fraction, x.unit());
        }
        partial = apart > HIGHEST_PLACE;
        int shift = partial ? HIGHEST_PLACE : apart;
        long left = divide(x.normalised(), y.normalised(), shift);
        return make(negative, left, x.exponent() - HIGHEST_PLACE - shift);
    }

    /**
     * What is left of dividend times 2^shift by the divisor; the quotient's lowest three bits are
     * kept. Both have their highest bit.
     */
    private long divide(long dividend, long divisor, int shift) {
        long left = dividend;
        int quotient = 0;
        if (Long.compareUnsigned(left, divisor) >= 0) {
            left -= divisor;
            quotient = 1;
        }
        for (int i = 0; i < shift; i++) {
            boolean carried = left < 0L;
            left <<= 1;
            quotient = (quotient << 1) & 7;
            if (carried || Long.compareUnsigned(left, divisor) >= 0) {
                left -= divisor;
                quotient |= 1;
            }
        }
        quotientBits = quotient;
        return left;
    }

    private int order(Real x, Real y) {
        boolean oneInfiniteNumber = (controlWord & VIEW) == 0;
        boolean infinite = x.isOf(Kind.INFINITE);
        boolean impossible = oneInfiniteNumber && infinite != y.isOf(Kind.INFINITE);
        if (!goesOn(x, y, impossible, false)) {
            return answered ? UNORDERED : NO_ANSWER;
        }
        if (oneInfiniteNumber && infinite) {
            return 0;
        }
        int side = x.side();
        if (side != y.side()) {
            return side < y.side() ? -1 : 1;
        }
        return side * orderOfSizes(x, y);
    }

    private static int orderOfSizes(Real x, Real y) {
        boolean infinite = x.isOf(Kind.INFINITE);
        if (infinite != y.isOf(Kind.INFINITE)) {
            return infinite ? 1 : -1;
        }
        if (infinite) {
            return 0;
        }
        if (x.exponent() != y.exponent()) {
            return x.exponent() < y.exponent() ? -1 : 1;
        }
        if (x.normalised() == y.normalised()) {
            return 0;
        }
        return Long.compareUnsigned(x.normalised(), y.normalised()) < 0 ? -1 : 1;
    }

    /** The kinds of reals, each with what examine() answers of it. */
    private enum Kind {
        ZERO(8),
        DENORMAL(12),
        UNNORMAL(0),
        NORMAL(4),
        INFINITE(5),
        NO_NUMBER(1);

        private final int examined;

        Kind(int examined) {
            this.examined = examined;
        }
    }

    /** A real as a register holds it; it never changes. */
    private static final class Real {
        private final int top;
        private final long fraction;

        private Real(int top, long fraction) {
            this.top = top;
            this.fraction = fraction;
        }

        private boolean isNegative() {
            return (top & SIGN) != 0;
        }

        private int power() {
            return top & ENDLESS_POWER;
        }

        private Kind kind() {
            int power = power();
            if (power == 0) {
                return fraction == 0L ? Kind.ZERO : Kind.DENORMAL;
            }
            if (power == ENDLESS_POWER) {
                return fraction << 1 == 0L ? Kind.INFINITE : Kind.NO_NUMBER;
            }
            return fraction < 0L ? Kind.NORMAL : Kind.UNNORMAL;
        }

        private boolean isOf(Kind kind) {
            return kind() == kind;
        }

        /** Whether its number is 0, be it ZERO or UNNORMAL. */
        private boolean isNought() {
            return fraction == 0L && power() != ENDLESS_POWER;
        }

        /** -1, 0 or 1 as it is below, the same as, or above 0. */
        private int side() {
            if (isNought()) {
                return 0;
            }
            return isNegative() ? -1 : 1;
        }

        /** The size of a finite one is its fraction times 2 to this. */
        private int unit() {
            return Math.max(power(), 1) - UNIT_OF_POWER;
        }

        /** The k of a size that is not 0. */
        private int exponent() {
            return unit() + HIGHEST_PLACE - Long.numberOfLeadingZeros(fraction);
        }

        private long normalised() {
            return fraction << Long.numberOfLeadingZeros(fraction);
        }
    }
}
