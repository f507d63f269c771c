/**
 * The promises 1 to 14 and the paragraph on calls that throw, sentence by sentence. Each test begins with
 * the sentence that it is of; what the steps answer is looked at in StepsTest.
 */
public final class CallsTest extends Bench {
    private static final int[] NO_REGISTERS = {-1, 8, 9, 16, 255, Integer.MIN_VALUE, Integer.MAX_VALUE, -8};
    private static final int[] BEYOND_16_BITS = {
        -1, -0x8000, 0x10000, 0x10001, 0x18000, 0x1ffff, 0x7fff0000, Integer.MIN_VALUE, Integer.MAX_VALUE
    };
    private static final int FIRST_CONTROL = 0x03ff;

    /** A call on an object whose state is then looked at. */
    private interface Use {
        void on(RealSteps x);
    }

    /** A call with a register's number. */
    private interface OnRegister {
        void on(RealSteps x, int r);
    }

    public static void main(String[] args) {
        new CallsTest().run();
    }

    private void run() {
        runAll(
                this::newObject,
                this::manyCalls,
                this::control,
                this::set,
                this::part,
                this::turn,
                this::constant,
                this::noStep,
                this::intoRegister,
                this::extractRegisters,
                this::answersTold,
                this::compareAnswers,
                this::examine,
                this::told,
                this::toldOfLastRemainder,
                this::eightRegisters,
                this::noSuchRegister,
                this::noSuchArgument,
                this::firstNamed);
    }

    // Promise 1

    private void newObject() {
        due.sentence("RealSteps(): The control is 0x03ff");
        RealSteps x = new RealSteps();
        due.same("steps", sumOfSteps(x), sumOfSteps(with(FIRST_CONTROL)));
        RealSteps other = with(FIRST_CONTROL);
        sumOfSteps(other);
        sameState("after steps", x, state(other));
        sameControl("a new object", new RealSteps(), FIRST_CONTROL);

        due.sentence("all registers are ZERO without the sign -");
        x = new RealSteps();
        for (int r = 0; r < REGISTERS; r++) {
            holds("register " + r, x, r, 0, 0L);
            due.same("examine(" + r + ")", x.examine(r), 8);
        }

        due.sentence("nothing told");
        for (int what = 0; what < 4; what++) {
            due.same("told(" + what + ")", new RealSteps().told(what), 0);
        }
        RealSteps first = new RealSteps();
        first.constant(4, 0);
        first.set(1, 0, 0, 5);
        first.remainder(0, 1, 2);
        x = new RealSteps();
        due.same("nothing from another object: told(0)", x.told(0), 0);
        due.same("nothing from another object: told(3)", x.told(3), 0);
        holds("nothing from another object: register 0", x, 0, 0, 0L);
    }

    private void manyCalls() {
        due.sentence("An object is used for at most 512 calls after it has been made");
        RealSteps x = new RealSteps();
        putWhole(x, 0, 1);
        putWhole(x, 1, 1);
        for (int i = 0; i < 507; i++) {
            due.same("twice " + i, x.scale(0, 1, 0), 0);
        }
        due.same("call 510", x.part(0, 0), ONE + 507);
        due.same("call 511", x.part(0, 1), Integer.MIN_VALUE);
        due.same("call 512", x.told(1), 1);
    }

    // Promise 2

    /** The control that the object has: each bit that changes something is asked for by a step. */
    private void sameControl(String what, RealSteps x, int word) {
        put(x, 0, ENDLESS, 1L);
        due.same(what + ", INVALID", x.test(0), (word & INVALID) != 0 ? 2 : RealSteps.NO_ANSWER);
        put(x, 0, 0, 1L);
        due.same(what + ", DENORMAL", x.test(0), (word & DENORMAL) != 0 ? 1 : RealSteps.NO_ANSWER);
        put(x, 0, 0, 0L);
        x.extract(0, 1, 2);
        due.same(what + ", DIVISION", x.told(1), (word & DIVISION) != 0 ? 1 : 0);
        put(x, 0, 32766, ALL_BITS);
        putWhole(x, 1, 1);
        due.same(what + ", OVER", x.scale(0, 1, 2), (word & OVER) != 0 ? OVER + LOSS : OVER);
        put(x, 0, 1, ALL_BITS);
        putWhole(x, 1, -1);
        due.same(what + ", UNDER", x.scale(0, 1, 2), (word & UNDER) != 0 ? UNDER + LOSS : UNDER);
        int rounding = word & CUT;
        put(x, 0, ONE, 3L << 62);
        x.whole(0, 1);
        holdsWhole(what + ", ROUNDING of 3/2", x, 1, rounding == NEAREST || rounding == UP ? 2 : 1);
        put(x, 0, ONE + MINUS, 5L << 61);
        x.whole(0, 1);
        holdsWhole(what + ", ROUNDING of -5/4", x, 1, rounding == DOWN ? -2 : -1);
        put(x, 0, ENDLESS, 0L);
        put(x, 1, ENDLESS + MINUS, 0L);
        due.same(what + ", VIEW", x.compare(0, 1), (word & VIEW) != 0 ? 1 : 0);
    }

    private static long sumOfSteps(RealSteps x) {
        x.constant(4, 0);
        long sum = x.whole(0, 1);
        put(x, 2, 32766, ALL_BITS);
        sum = 64 * sum + x.scale(2, 1, 3);
        put(x, 4, 1, 1L);
        x.turn(1, false);
        sum = 64 * sum + x.scale(4, 1, 4);
        put(x, 5, 0, 7L);
        sum = 64 * sum + x.remainder(0, 5, 6);
        sum = 64 * sum + x.extract(7, 1, 2);
        return 64 * sum + x.test(2);
    }

    private void control() {
        due.sentence("control: The control's word.");
        for (int word : new int[] {0, 1, 0x3f, 0x40, 0x400, 0x800, 0xc00, 0x1000, 0x2000, 0x8000, 0x9a15, 0xffff}) {
            RealSteps x = new RealSteps();
            due.throwsNothing("control(" + word + ")", () -> x.control(word));
            sameControl("control " + Integer.toHexString(word), x, word);
            x.control(~word & 0xffff);
            sameControl("control " + Integer.toHexString(~word & 0xffff), x, ~word);
        }

        due.sentence("control: IllegalArgumentException when it has more than 16 bits");
        for (int word : BEYOND_16_BITS) {
            for (int before : new int[] {0, CUT + VIEW + INVALID + UNDER, UP + DENORMAL + DIVISION + OVER}) {
                RealSteps x = used();
                x.control(before);
                refused("control(" + word + ")", x, false, y -> y.control(word));
                sameControl("after control(" + word + ")", x, before);
            }
        }
        RealSteps x = used();
        refused("control(65536) at the first control", x, false, y -> y.control(65536));
        sameControl("after control(65536)", x, FIRST_CONTROL);
    }

    // Promises 3 to 6

    private void set() {
        due.sentence("set: A register's sign and power (top, 16 bits, the sign highest)");
        RealSteps x = new RealSteps();
        for (int top : new int[] {0, 1, 0x5555, ENDLESS, MINUS, MINUS + 1, 0xaaaa, 0xffff}) {
            x.set(3, top, 0x12345678, 0x9abcdef0);
            holds("top " + top, x, 3, top, 0x123456789abcdef0L);
        }
        put(x, 3, MINUS + ONE, HIGHEST_BIT);
        due.same("the sign highest", x.test(3), -1);

        due.sentence("set: and fraction (high and low, 32 bits each)");
        for (int high : new int[] {0, 1, -1, Integer.MIN_VALUE, Integer.MAX_VALUE}) {
            for (int low : new int[] {0, 1, -1, Integer.MIN_VALUE, Integer.MAX_VALUE}) {
                x.set(5, ONE, high, low);
                due.same("high", x.part(5, 1), high);
                due.same("low", x.part(5, 2), low);
                due.same("top", x.part(5, 0), ONE);
            }
        }

        due.sentence("set: a register, and no other");
        for (int r = 0; r < REGISTERS; r++) {
            x = used();
            long[] before = state(x);
            x.set(r, 0xfedc, -2, 2);
            holds("register " + r, x, r, 0xfedc, 0xfffffffe00000002L);
            sameOthers("set(" + r + ")", x, before, r);
        }

        due.sentence("set: IllegalArgumentException when top has more than 16 bits");
        for (int top : BEYOND_16_BITS) {
            refused("set(2, " + top + ")", used(), false, y -> y.set(2, top, 5, 5));
        }
    }

    private void part() {
        due.sentence("part: what = 0 top, 1 high, 2 low");
        RealSteps x = new RealSteps();
        for (int r = 0; r < REGISTERS; r++) {
            x.set(r, 0x8001 + r, 0x80000100 + r, 0xf0000200 + r);
        }
        for (int r = 0; r < REGISTERS; r++) {
            due.same("part(" + r + ", 0)", x.part(r, 0), 0x8001 + r);
            due.same("part(" + r + ", 1)", x.part(r, 1), 0x80000100 + r);
            due.same("part(" + r + ", 2)", x.part(r, 2), 0xf0000200 + r);
        }

        due.sentence("part: IllegalArgumentException when what is none of these");
        for (int what : new int[] {-1, 3, 4, 8, Integer.MIN_VALUE, Integer.MAX_VALUE}) {
            refused("part(1, " + what + ")", used(), false, y -> y.part(1, what));
        }
    }

    private void turn() {
        int[] tops = {0, 1, 5, ONE, 32766, ENDLESS, ENDLESS, ENDLESS};
        long[] fractions = {0L, 0L, 9L, HIGHEST_BIT, ALL_BITS, HIGHEST_BIT, 1L, ALL_BITS};

        due.sentence("turn: A register's sign becomes the other one");
        for (int i = 0; i < tops.length; i++) {
            RealSteps x = with(0, tops[i], fractions[i]);
            x.turn(0, false);
            holds("turned", x, 0, tops[i] + MINUS, fractions[i]);
            x.turn(0, false);
            holds("turned twice", x, 0, tops[i], fractions[i]);
        }

        due.sentence("turn: or is taken away");
        for (int i = 0; i < tops.length; i++) {
            RealSteps x = with(0, tops[i] + MINUS, fractions[i]);
            x.turn(0, true);
            holds("taken away", x, 0, tops[i], fractions[i]);
            x.turn(0, true);
            holds("taken away where there is none", x, 0, tops[i], fractions[i]);
        }

        due.sentence("turn: a register, and no other");
        for (int r = 0; r < REGISTERS; r++) {
            RealSteps x = used();
            long[] before = state(x);
            x.turn(r, false);
            holds("turn(" + r + ", false)", x, r, (int) before[2 * r] ^ MINUS, before[2 * r + 1]);
            sameOthers("turn(" + r + ", false)", x, before, r);
            x.turn(r, true);
            holds("turn(" + r + ", true)", x, r, (int) before[2 * r] & ENDLESS, before[2 * r + 1]);
            sameOthers("turn(" + r + ", true)", x, before, r);
        }
    }

    private void isConstant(String sentence, int which, int top, long fraction) {
        due.sentence("constant: " + sentence);
        for (int rounding : ROUNDINGS) {
            for (int r = 0; r < REGISTERS; r++) {
                RealSteps x = used();
                x.control(rounding);
                x.set(r, 0xffff, -1, -1);
                long[] before = state(x);
                x.constant(which, r);
                holds("constant(" + which + ", " + r + ")", x, r, top, fraction);
                sameOthers("constant(" + which + ", " + r + ")", x, before, r);
            }
        }
    }

    private void constant() {
        isConstant("0 ZERO", 0, 0, 0L);
        isConstant("1 one", 1, ONE, HIGHEST_BIT);
        // The bits that follow: 01001001.., 10111110.., 11000100.., 10001111.. and 11001001.. .
        isConstant("2 the logarithm of 10 by 2, the nearest", 2, ONE + 1, 0xd49a784bcd1b8afeL);
        isConstant("3 that of e by 2, the nearest", 3, ONE, 0xb8aa3b295c17f0bcL);
        isConstant("4 pi, the nearest", 4, ONE + 1, 0xc90fdaa22168c235L);
        isConstant("5 the logarithm of 2 by 10, the nearest", 5, ONE - 2, 0x9a209a84fbcff799L);
        isConstant("6 that of 2 by e, the nearest", 6, ONE - 1, 0xb17217f7d1cf79acL);

        due.sentence("constant: IllegalArgumentException when there is none such");
        for (int which : new int[] {-1, 7, 8, Integer.MIN_VALUE, Integer.MAX_VALUE}) {
            refused("constant(" + which + ", 3)", used(), false, y -> y.constant(which, 3));
        }
    }

    private void toldUnchanged(String what, Use use) {
        RealSteps x = used();
        long[] before = state(x);
        use.on(x);
        for (int i = 0; i < 4; i++) {
            due.same(what + ", told(" + i + ")", x.told(i), before[2 * REGISTERS + i]);
        }
    }

    private void noStep() {
        due.sentence("told: Of the last step (whole to test), so that no other call is one");
        toldUnchanged("control", x -> x.control(0));
        toldUnchanged("set", x -> x.set(1, 0, 0, 1));
        toldUnchanged("part", x -> x.part(1, 0));
        toldUnchanged("turn", x -> x.turn(1, false));
        toldUnchanged("turn away", x -> x.turn(1, true));
        toldUnchanged("constant", x -> x.constant(4, 1));
        toldUnchanged("examine", x -> x.examine(5));
        toldUnchanged("told", x -> x.told(0));
        RealSteps x = used();
        long[] before = state(x);
        for (int r = 0; r < REGISTERS; r++) {
            x.examine(r);
        }
        sameState("part, told and examine change nothing", x, before);
    }

    // Promises 7 to 10

    /** The step's answer goes into the register that it names, and into no other. */
    private void goesInto(String what, int to, long[] before, RealSteps x, int top, long fraction) {
        holds(what, x, to, top, fraction);
        sameOthers(what, x, before, to);
    }

    private void intoRegister() {
        due.sentence("whole: WHOLE of a goes into a register");
        for (int to = 0; to < REGISTERS; to++) {
            RealSteps x = with(0, ONE + 1, 5L << 61);
            long[] before = state(x);
            x.whole(0, to);
            goesInto("whole(0, " + to + ")", to, before, x, ONE + 1, HIGHEST_BIT);
            x.constant(4, 7);
            before = state(x);
            x.whole(7, to);
            goesInto("whole(7, " + to + ")", to, before, x, ONE + 1, 3L << 62);
        }

        due.sentence("scale: SCALE of a and b goes into a register");
        for (int to = 0; to < REGISTERS; to++) {
            RealSteps x = with(0);
            putWhole(x, 3, 5);
            putWhole(x, 6, 2);
            long[] before = state(x);
            x.scale(3, 6, to);
            goesInto("scale(3, 6, " + to + ")", to, before, x, topOfWhole(20), fractionOfWhole(20));
        }
        RealSteps x = with(0);
        putWhole(x, 2, 3);
        x.scale(2, 2, 2);
        holdsWhole("scale(2, 2, 2)", x, 2, 24);

        due.sentence("remainder: REMAINDER of a and b goes into a register");
        for (int to = 0; to < REGISTERS; to++) {
            x = with(0);
            putWhole(x, 3, 15);
            putWhole(x, 6, 4);
            long[] before = state(x);
            x.remainder(3, 6, to);
            goesInto("remainder(3, 6, " + to + ")", to, before, x, topOfWhole(3), fractionOfWhole(3));
        }
        x = with(0);
        putWhole(x, 2, 3);
        x.remainder(2, 2, 2);
        holdsWhole("remainder(2, 2, 2)", x, 2, 0);
    }

    private void extractRegisters() {
        due.sentence("extract: power and fraction go into registers");
        for (int power = 0; power < REGISTERS; power++) {
            for (int fraction = 0; fraction < REGISTERS; fraction++) {
                if (power != fraction) {
                    RealSteps x = with(0);
                    putWhole(x, 4, -24);
                    long[] before = state(x);
                    due.same("extract", x.extract(4, power, fraction), 0);
                    String what = "extract(4, " + power + ", " + fraction + ")";
                    holdsWhole(what, x, power, 4);
                    holds(what, x, fraction, ONE + MINUS, 3L << 62);
                    sameOthers(what, x, before, power, fraction);
                }
            }
        }

        due.sentence("extract: IllegalArgumentException when these are the same");
        for (int r = 0; r < REGISTERS; r++) {
            int same = r;
            refused("extract(0, r, r)", used(), false, y -> y.extract(0, same, same));
            refused("extract(r, r, r)", used(), false, y -> y.extract(same, same, same));
        }
    }

    private void answers(String what, RealSteps x, int got, int told) {
        due.same(what, got, told);
        due.same(what + ", told(0)", x.told(0), told);
    }

    private void answersTold() {
        RealSteps x = with(MASKS, 0, 1L);
        put(x, 1, ENDLESS, 1L);
        putWhole(x, 2, 1);
        putWhole(x, 3, 16383);

        due.sentence("whole: answers what is told");
        answers("whole 1", x, x.whole(2, 6), 0);
        answers("whole of a denormal one", x, x.whole(0, 6), DENORMAL + LOSS);
        answers("whole of no number", x, x.whole(1, 6), INVALID);

        due.sentence("scale: answers what is told");
        answers("scale 1", x, x.scale(2, 2, 6), 0);
        answers("scale under", x, x.scale(2, 3, 5), 0);
        x.turn(3, false);
        answers("scale a denormal one under", x, x.scale(0, 3, 6), DENORMAL + UNDER + LOSS);
        answers("scale over", x, overScale(x), OVER + LOSS);
        answers("scale no number", x, x.scale(1, 2, 6), INVALID);

        due.sentence("extract: answers what is told");
        answers("extract 1", x, x.extract(2, 5, 6), 0);
        answers("extract 0", x, x.extract(7, 5, 6), DIVISION);
        answers("extract a denormal one", x, x.extract(0, 5, 6), DENORMAL);
        answers("extract no number", x, x.extract(1, 5, 6), INVALID);

        due.sentence("remainder: answers what is told");
        answers("1 by 1", x, x.remainder(2, 2, 6), 0);
        answers("1 by a denormal one", x, x.remainder(2, 0, 6), DENORMAL);
        answers("1 by 0", x, x.remainder(2, 7, 6), INVALID);
        x.control(0);
        answers("1 by 0, not masked", x, x.remainder(2, 7, 6), INVALID);
        answers("1 by a denormal one, not masked", x, x.remainder(2, 0, 6), DENORMAL);
    }

    private static int overScale(RealSteps x) {
        put(x, 4, 32766, HIGHEST_BIT);
        return x.scale(4, 2, 6);
    }

    // Promises 11 to 13

    private void compareAnswers() {
        due.sentence("compare: -1, 0, 1 or 2; NO_ANSWER when there is none");
        RealSteps x = with(INVALID, ENDLESS, 1L);
        putWhole(x, 1, 1);
        put(x, 2, 0, 1L);
        due.same("0 and 1", x.compare(7, 1), -1);
        due.same("1 and 1", x.compare(1, 1), 0);
        due.same("1 and 0", x.compare(1, 7), 1);
        due.same("1 and no number", x.compare(1, 0), 2);
        due.same("1 and a denormal one", x.compare(1, 2), RealSteps.NO_ANSWER);
        x.control(0);
        due.same("1 and no number, not masked", x.compare(1, 0), RealSteps.NO_ANSWER);
        due.same("NO_ANSWER", RealSteps.NO_ANSWER, 3);

        due.sentence("test: TEST of a, as compare()");
        x = with(INVALID, ENDLESS, 1L);
        putWhole(x, 1, -1);
        put(x, 2, 0, 1L);
        due.same("-1", x.test(1), -1);
        due.same("0", x.test(7), 0);
        x.turn(1, true);
        due.same("1", x.test(1), 1);
        due.same("no number", x.test(0), 2);
        due.same("a denormal one", x.test(2), RealSteps.NO_ANSWER);
        x.control(0);
        due.same("no number, not masked", x.test(0), RealSteps.NO_ANSWER);

        due.sentence("compare and test change no register");
        x = used();
        long[] before = state(x);
        x.compare(2, 5);
        x.test(2);
        sameOthers("compare and test", x, before);
    }

    private void examined(String what, int top, long fraction, int want) {
        for (int word : new int[] {0, FIRST_CONTROL, 0xffff}) {
            RealSteps x = with(word, top, fraction);
            due.same(what, x.examine(0), want);
        }
    }

    private void examine() {
        int[] tops = {ONE, ENDLESS, ONE, ENDLESS, 0, 0};
        long[] fractions = {1L, 1L, HIGHEST_BIT, HIGHEST_BIT, 0L, 1L};
        int[] want = {0, 1, 4, 5, 8, 12};
        String[] names = {"UNNORMAL 0", "NO NUMBER 1", "NORMAL 4", "INFINITE 5", "ZERO 8", "DENORMAL 12"};
        for (int i = 0; i < tops.length; i++) {
            due.sentence("examine: What a register is: " + names[i]);
            examined(names[i], tops[i], fractions[i], want[i]);
        }
        due.sentence("examine: 2 more with the sign -");
        for (int i = 0; i < tops.length; i++) {
            examined(names[i] + " with the sign -", tops[i] + MINUS, fractions[i], want[i] + 2);
        }
    }

    // Promise 14

    private void told() {
        due.sentence("told: what = 0 what was told");
        RealSteps x = with(MASKS, ONE, 3L << 62);
        x.whole(0, 1);
        due.same("LOSS", x.told(0), LOSS);
        x.whole(1, 2);
        due.same("of the last step alone", x.told(0), 0);
        x.extract(7, 3, 4);
        due.same("DIVISION", x.told(0), DIVISION);
        x.compare(0, 1);
        due.same("of the last step alone, after compare", x.told(0), 0);
        x.test(3);
        due.same("INVALID of test", x.told(0), INVALID);

        due.sentence("told: 1 whether there was an answer (1 or 0)");
        due.same("masked", x.told(1), 1);
        x.control(0);
        x.extract(7, 3, 4);
        due.same("not masked", x.told(1), 0);
        x.compare(0, 1);
        due.same("the next step has one", x.told(1), 1);
        x.test(3);
        due.same("test, not masked", x.told(1), 0);
        x.whole(0, 1);
        due.same("LOSS, not masked", x.told(1), 1);
        put(x, 2, 32766, HIGHEST_BIT);
        putWhole(x, 1, 1);
        x.scale(2, 1, 3);
        due.same("OVER, not masked", x.told(1), 1);
        put(x, 2, 1, 1L);
        x.scale(2, 1, 3);
        due.same("UNDER, not masked", x.told(1), 1);

        due.sentence("told: 2 the lowest three bits of the last remainder's quotient");
        for (int a = 0; a < 40; a++) {
            putWhole(x, 0, a % 2 == 0 ? a : -a);
            putWhole(x, 1, 2);
            x.remainder(0, 1, 2);
            due.same(a + " by 2", x.told(2), a / 2 % 8);
            due.same(a + " by 2, answered as a whole", x.told(3), 0);
        }

        due.sentence("told: 3 whether the last remainder was PARTIAL (1 or 0)");
        put(x, 0, ONE + 63, HIGHEST_BIT);
        putWhole(x, 1, 1);
        x.remainder(0, 1, 2);
        due.same("d 63", x.told(3), 0);
        put(x, 0, ONE + 64, HIGHEST_BIT);
        x.remainder(0, 1, 2);
        due.same("d 64", x.told(3), 1);

        due.sentence("told: IllegalArgumentException when what is none of these");
        for (int what : new int[] {-1, 4, 5, 8, Integer.MIN_VALUE, Integer.MAX_VALUE}) {
            refused("told(" + what + ")", used(), false, y -> y.told(what));
        }
    }

    /** The quotient of the last remainder is told as it was before this. */
    private void keepsQuotient(String what, Use use) {
        RealSteps x = used();
        use.on(x);
        due.same(what + ", told(2)", x.told(2), 5);
        due.same(what + ", told(3)", x.told(3), 1);
    }

    private void toldOfLastRemainder() {
        due.sentence("told: (2 and 3 are those of the last one that came to its quotient)");
        keepsQuotient("whole", x -> x.whole(1, 2));
        keepsQuotient("scale", x -> x.scale(1, 1, 2));
        keepsQuotient("extract", x -> x.extract(1, 2, 3));
        keepsQuotient("compare", x -> x.compare(1, 2));
        keepsQuotient("test", x -> x.test(1));
        keepsQuotient("1 by 0, masked", x -> x.remainder(1, 7, 2));
        keepsQuotient("no number by 1, masked", x -> {
            put(x, 2, ENDLESS, 1L);
            x.remainder(2, 1, 3);
        });
        keepsQuotient("an infinite one by 1, masked", x -> {
            put(x, 2, ENDLESS, 0L);
            x.remainder(2, 1, 3);
        });
        keepsQuotient("1 by 0, not masked", x -> {
            x.control(0);
            x.remainder(1, 7, 2);
        });
        keepsQuotient("a denormal one by 1, not masked", x -> {
            x.control(0);
            put(x, 2, 0, 1L);
            x.remainder(2, 1, 3);
        });
        RealSteps x = used();
        put(x, 2, ENDLESS, 0L);
        x.remainder(1, 2, 3);
        due.same("1 by an infinite one came to it, told(2)", x.told(2), 0);
        due.same("1 by an infinite one came to it, told(3)", x.told(3), 0);
        x = used();
        x.remainder(7, 1, 3);
        due.same("0 by 1 came to it, told(2)", x.told(2), 0);
        due.same("0 by 1 came to it, told(3)", x.told(3), 0);
        x = used();
        put(x, 2, 1, 1L);
        x.control(0);
        due.same("UNDER is told", x.remainder(2, 1, 3), UNDER);
        due.same("one with UNDER, not masked, came to it, told(2)", x.told(2), 0);

        due.sentence("told: 0 before");
        x = new RealSteps();
        x.constant(1, 0);
        x.whole(0, 1);
        x.remainder(0, 7, 1);
        x.compare(0, 1);
        due.same("told(2)", x.told(2), 0);
        due.same("told(3)", x.told(3), 0);
    }

    // Calls that throw

    /**
     * An object with another real in each register, of each kind but NO NUMBER. Its last step is a remainder
     * that told DENORMAL and was PARTIAL, with 5 as its quotient's bits.
     */
    private static RealSteps used() {
        RealSteps x = new RealSteps();
        put(x, 0, 101 + MINUS, HIGHEST_BIT + 5);
        putWhole(x, 1, 1);
        put(x, 2, ONE, 3L << 62);
        put(x, 4, MINUS, 1L << 62);
        put(x, 5, ENDLESS + MINUS, 0L);
        put(x, 6, ONE + 5, 1L << 40);
        x.remainder(0, 4, 3);
        return x;
    }

    /** The call throws, and changes nothing. */
    private void refused(String what, RealSteps x, boolean index, Use use) {
        long[] before = state(x);
        if (index) {
            due.throwsIndex(what, () -> use.on(x));
        } else {
            due.throwsArgument(what, () -> use.on(x));
        }
        sameState("after " + what, x, before);
    }

    private void eightRegisters() {
        due.sentence("EIGHT REGISTERS, 0 .. 7, hold reals.");
        RealSteps x = with(INVALID);
        for (int r = 0; r < REGISTERS; r++) {
            int one = r;
            due.throwsNothing("set", () -> put(x, one, 0x8100 + one, HIGHEST_BIT + one));
        }
        for (int r = 0; r < REGISTERS; r++) {
            holds("register " + r, x, r, 0x8100 + r, HIGHEST_BIT + r);
        }
        for (int r = 0; r < REGISTERS; r++) {
            int one = r;
            int other = (r + 1) % REGISTERS;
            due.throwsNothing("part", () -> x.part(one, 2));
            due.throwsNothing("turn", () -> x.turn(one, false));
            due.throwsNothing("constant", () -> x.constant(4, one));
            due.throwsNothing("whole", () -> x.whole(one, one));
            due.throwsNothing("scale", () -> x.scale(one, one, one));
            due.throwsNothing("extract", () -> x.extract(one, one, other));
            due.throwsNothing("remainder", () -> x.remainder(one, one, one));
            due.throwsNothing("compare", () -> x.compare(one, one));
            due.throwsNothing("test", () -> x.test(one));
            due.throwsNothing("examine", () -> x.examine(one));
        }
    }

    private void noRegister(String what, OnRegister call) {
        due.sentence("IndexOutOfBoundsException: there is no such register: " + what);
        for (int r : NO_REGISTERS) {
            RealSteps x = used();
            refused(what + ", " + r, x, true, y -> call.on(y, r));
            sameControl(what + ", " + r, x, FIRST_CONTROL);
        }
    }

    private void noSuchRegister() {
        noRegister("set(r)", (x, r) -> x.set(r, 0, 0, 0));
        noRegister("part(r)", (x, r) -> x.part(r, 0));
        noRegister("turn(r)", (x, r) -> x.turn(r, false));
        noRegister("turn(r) away", (x, r) -> x.turn(r, true));
        noRegister("constant(to)", (x, r) -> x.constant(4, r));
        noRegister("whole(a)", (x, r) -> x.whole(r, 3));
        noRegister("whole(to)", (x, r) -> x.whole(1, r));
        noRegister("scale(a)", (x, r) -> x.scale(r, 1, 3));
        noRegister("scale(b)", (x, r) -> x.scale(1, r, 3));
        noRegister("scale(to)", (x, r) -> x.scale(1, 1, r));
        noRegister("extract(a)", (x, r) -> x.extract(r, 2, 3));
        noRegister("extract(power)", (x, r) -> x.extract(1, r, 3));
        noRegister("extract(fraction)", (x, r) -> x.extract(1, 2, r));
        noRegister("remainder(a)", (x, r) -> x.remainder(r, 1, 3));
        noRegister("remainder(b)", (x, r) -> x.remainder(1, r, 3));
        noRegister("remainder(to)", (x, r) -> x.remainder(1, 1, r));
        noRegister("compare(a)", (x, r) -> x.compare(r, 1));
        noRegister("compare(b)", (x, r) -> x.compare(1, r));
        noRegister("test(a)", (x, r) -> x.test(r));
        noRegister("examine(a)", (x, r) -> x.examine(r));

        due.sentence("IndexOutOfBoundsException comes before what a step tells");
        for (int word : new int[] {0, MASKS}) {
            RealSteps x = used();
            x.control(word);
            put(x, 0, ENDLESS, 1L);
            refused("whole of no number", x, true, y -> y.whole(0, 8));
            refused("scale of no number", x, true, y -> y.scale(0, 8, 1));
            refused("extract of 0", x, true, y -> y.extract(7, 1, 8));
            refused("remainder by 0", x, true, y -> y.remainder(1, 7, 8));
            refused("compare with no number", x, true, y -> y.compare(0, 8));
        }
    }

    private void noSuchArgument() {
        due.sentence("A call that throws changes nothing");
        RealSteps x = used();
        refused("control", x, false, y -> y.control(0x10000));
        refused("set", x, false, y -> y.set(0, 0x10000, 1, 1));
        refused("part", x, false, y -> y.part(0, 3));
        refused("constant", x, false, y -> y.constant(7, 0));
        refused("extract", x, false, y -> y.extract(7, 0, 0));
        refused("told", x, false, y -> y.told(4));
        sameControl("after them", x, FIRST_CONTROL);
    }

    private void firstNamed() {
        due.sentence("where several exceptions that a call names fit, the one named first is thrown: set");
        refused("set(8, 65536)", used(), true, x -> x.set(8, 0x10000, 0, 0));
        refused("set(-1, -1)", used(), true, x -> x.set(-1, -1, 0, 0));

        due.sentence("where several exceptions fit, the one named first is thrown: part");
        refused("part(8, 3)", used(), true, x -> x.part(8, 3));
        refused("part(-1, -1)", used(), true, x -> x.part(-1, -1));

        due.sentence("where several exceptions fit, the one named first is thrown: constant");
        refused("constant(7, 8)", used(), true, x -> x.constant(7, 8));
        refused("constant(-1, -1)", used(), true, x -> x.constant(-1, -1));

        due.sentence("where several exceptions fit, the one named first is thrown: extract");
        refused("extract(8, 3, 3)", used(), true, x -> x.extract(8, 3, 3));
        refused("extract(-1, 3, 3)", used(), true, x -> x.extract(-1, 3, 3));
        refused("extract(0, 8, 8)", used(), true, x -> x.extract(0, 8, 8));
        refused("extract(0, -1, -1)", used(), true, x -> x.extract(0, -1, -1));
    }
}
