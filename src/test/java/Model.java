import java.math.BigInteger;

/**
 * The document once more, in exact whole numbers of any length and without regard to speed: a number
 * is held as a multiple of 2^-FINEST, and each sentence of the section "Terms" is done as it reads.
 */
final class Model {
    static final int REGISTERS = 8;
    private static final int FINEST = 34000;
    private static final BigInteger ONE = BigInteger.ONE;
    private static final BigInteger NOUGHT = BigInteger.ZERO;
    private static final BigInteger TWO_64 = ONE.shiftLeft(64);

    static final int ZERO = 0;
    static final int DENORMAL = 1;
    static final int UNNORMAL = 2;
    static final int NORMAL = 3;
    static final int INFINITE = 4;
    static final int NO_NUMBER = 5;

    /** A real; its fraction is never negative. */
    record Value(boolean minus, int power, BigInteger fraction) {
        int kind() {
            boolean highest = fraction.testBit(63);
            if (power == 0) {
                return fraction.signum() == 0 ? ZERO : DENORMAL;
            }
            if (power < 32767) {
                return highest ? NORMAL : UNNORMAL;
            }
            return fraction.clearBit(63).signum() == 0 ? INFINITE : NO_NUMBER;
        }

        /** Its size in units of 2^-FINEST. */
        BigInteger size() {
            return fraction.shiftLeft((power == 0 ? 1 : power) - 16446 + FINEST);
        }

        BigInteger number() {
            return minus ? size().negate() : size();
        }

        boolean isNought() {
            return kind() < INFINITE && size().signum() == 0;
        }

        int top() {
            return (minus ? 0x8000 : 0) + power;
        }
    }

    final Value[] registers = new Value[REGISTERS];
    int control = 0x03ff;
    int told;
    boolean answer;
    int quotient;
    boolean partial;

    Model() {
        for (int r = 0; r < REGISTERS; r++) {
            registers[r] = new Value(false, 0, NOUGHT);
        }
    }

    static Value value(int top, long fraction) {
        BigInteger f = BigInteger.valueOf(fraction);
        return new Value(top >= 0x8000, top & 0x7fff, f.signum() < 0 ? f.add(TWO_64) : f);
    }

    int whole(int a, int to) {
        Value x = registers[a];
        begin();
        Value early = early(x, x, false, false);
        if (early != null || !answer) {
            return put(to, early);
        }
        if (x.kind() == INFINITE) {
            return put(to, x);
        }
        BigInteger rounded = round(x.minus, x.size(), 0);
        Value made = make(x.minus, rounded);
        if (!rounded.equals(x.size())) {
            told |= 32;
        }
        return put(to, made);
    }

    int scale(int a, int b, int to) {
        Value x = registers[a];
        Value y = registers[b];
        begin();
        boolean far = y.kind() == INFINITE
                || y.kind() < INFINITE && y.size().compareTo(power(14)) >= 0;
        Value early = early(x, y, far, false);
        if (early != null || !answer) {
            return put(to, early);
        }
        if (x.kind() == INFINITE) {
            return put(to, x);
        }
        int n = y.size().shiftRight(FINEST).intValueExact();
        BigInteger size = y.minus ? exactRight(x.size(), n) : x.size().shiftLeft(n);
        return put(to, make(x.minus, size));
    }

    int extract(int a, int power, int fraction) {
        Value x = registers[a];
        begin();
        Value early = early(x, x, false, x.isNought());
        if (early != null || !answer) {
            put(power, early);
            return put(fraction, early);
        }
        if (x.kind() == INFINITE) {
            put(power, value(0x7fff, 1L << 63));
            return put(fraction, x);
        }
        if (x.isNought()) {
            put(power, value(0xffff, 1L << 63));
            return put(fraction, new Value(x.minus, 0, NOUGHT));
        }
        int k = k(x.size());
        put(power, make(k < 0, BigInteger.valueOf(Math.abs(k)).shiftLeft(FINEST)));
        BigInteger byPower = k < 0 ? x.size().shiftLeft(-k) : exactRight(x.size(), k);
        return put(fraction, make(x.minus, byPower));
    }

    int remainder(int a, int b, int to) {
        Value x = registers[a];
        Value y = registers[b];
        begin();
        boolean impossible = x.kind() == INFINITE || y.isNought() || y.kind() == UNNORMAL;
        Value early = early(x, y, impossible, false);
        if (early != null || !answer) {
            return put(to, early);
        }
        quotient = 0;
        partial = false;
        if (y.kind() == INFINITE || x.isNought()) {
            return put(to, make(x.minus, x.size()));
        }
        int d = k(x.size()) - k(y.size());
        partial = d >= 64;
        BigInteger divisor = partial ? y.size().shiftLeft(d - 63) : y.size();
        BigInteger[] q = x.size().divideAndRemainder(divisor);
        quotient = q[0].and(BigInteger.valueOf(7)).intValue();
        return put(to, make(x.minus, q[1]));
    }

    int compare(int a, int b) {
        return compare(registers[a], registers[b]);
    }

    int test(int a) {
        return compare(registers[a], new Value(false, 0, NOUGHT));
    }

    int examine(int a) {
        int[] answers = {8, 12, 0, 4, 5, 1};
        return answers[registers[a].kind()] + (registers[a].minus ? 2 : 0);
    }

    private int compare(Value x, Value y) {
        boolean two = (control & 0x1000) != 0;
        boolean xInfinite = x.kind() == INFINITE;
        boolean yInfinite = y.kind() == INFINITE;
        begin();
        Value early = early(x, y, !two && xInfinite != yInfinite, false);
        if (early != null) {
            return 2;
        }
        if (!answer) {
            return 3;
        }
        if (!two && xInfinite && yInfinite) {
            return 0;
        }
        return placed(x).compareTo(placed(y));
    }

    /** Its number; an infinite one lies beyond all others. */
    private static BigInteger placed(Value x) {
        if (x.kind() != INFINITE) {
            return x.number();
        }
        return x.minus ? power(20000).negate() : power(20000);
    }

    private void begin() {
        told = 0;
        answer = true;
    }

    private int put(int r, Value value) {
        if (answer) {
            registers[r] = value;
        }
        return told;
    }

    private boolean masked(int bit) {
        return (control & bit) != 0;
    }

    /** (1) to (4): the answer that ends the step, or null; without an answer `answer` is false. */
    private Value early(Value x, Value y, boolean impossible, boolean division) {
        if (x.kind() == NO_NUMBER || y.kind() == NO_NUMBER) {
            told |= 1;
            answer = masked(1);
            return answer ? chosen(x, y) : null;
        }
        if (impossible) {
            told |= 1;
            answer = masked(1);
            return answer ? value(0xffff, 3L << 62) : null;
        }
        if (x.kind() == DENORMAL || y.kind() == DENORMAL) {
            told |= 2;
            if (!masked(2)) {
                answer = false;
                return null;
            }
        }
        if (division) {
            told |= 4;
            answer = masked(4);
        }
        return null;
    }

    private static Value chosen(Value x, Value y) {
        if (y.kind() != NO_NUMBER) {
            return x;
        }
        if (x.kind() != NO_NUMBER) {
            return y;
        }
        int order = x.fraction.compareTo(y.fraction);
        if (order != 0) {
            return order > 0 ? x : y;
        }
        return !x.minus ? x : !y.minus ? y : x;
    }

    private static BigInteger power(int k) {
        return ONE.shiftLeft(FINEST + k);
    }

    private static int k(BigInteger size) {
        return size.bitLength() - 1 - FINEST;
    }

    private static BigInteger exactRight(BigInteger size, int n) {
        BigInteger moved = size.shiftRight(n);
        if (!moved.shiftLeft(n).equals(size)) {
            throw new IllegalStateException("the model's units are too coarse");
        }
        return moved;
    }

    /** A size, rounded with its sign to a multiple of 2^q. */
    private BigInteger round(boolean minus, BigInteger size, int q) {
        BigInteger unit = power(q);
        BigInteger number = minus ? size.negate() : size;
        BigInteger below = number.shiftRight(FINEST + q).shiftLeft(FINEST + q);
        if (below.equals(number)) {
            return size;
        }
        BigInteger above = below.add(unit);
        BigInteger taken;
        switch ((control >> 10) & 3) {
            case 1 -> taken = below;
            case 2 -> taken = above;
            case 3 -> taken = minus ? above : below;
            default -> {
                int nearer = number.subtract(below).compareTo(above.subtract(number));
                boolean evenBelow = !below.testBit(FINEST + q);
                taken = nearer < 0 || nearer == 0 && evenBelow ? below : above;
            }
        }
        return taken.abs();
    }

    private Value make(boolean minus, BigInteger x) {
        if (x.signum() == 0) {
            return new Value(minus, 0, NOUGHT);
        }
        BigInteger y = round(minus, x, k(x) - 63);
        int loss = y.equals(x) ? 0 : 32;
        if (x.compareTo(power(-16382)) < 0) {
            if (!masked(16)) {
                told |= 16 | loss;
                return pack(minus, y.shiftLeft(24576));
            }
            BigInteger rounded = round(minus, x, -16445);
            if (!rounded.equals(x)) {
                told |= 16 | 32;
            }
            return pack(minus, rounded);
        }
        if (y.compareTo(power(16384)) < 0) {
            told |= loss;
            return pack(minus, y);
        }
        if (!masked(8)) {
            told |= 8 | loss;
            return pack(minus, exactRight(y, 24576));
        }
        told |= 8 | 32;
        int rounding = (control >> 10) & 3;
        boolean infinite = rounding == 0 || rounding == 2 && !minus || rounding == 1 && minus;
        return infinite
                ? new Value(minus, 32767, ONE.shiftLeft(63))
                : new Value(minus, 32766, TWO_64.subtract(ONE));
    }

    private static Value pack(boolean minus, BigInteger size) {
        if (size.compareTo(power(-16382)) < 0) {
            return new Value(minus, 0, exactRight(size, FINEST - 16445));
        }
        int k = k(size);
        return new Value(minus, k + 16383, exactRight(size, FINEST + k - 63));
    }
}
