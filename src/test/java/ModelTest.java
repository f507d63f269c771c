/** The same steps on a RealSteps and on the model; after each all that can be asked is the same. */
public final class ModelTest {
    private static final int OBJECTS = 3000;
    private static final int MOST_CALLS = 512;
    private static final int ASKED = 3 * Model.REGISTERS + 4 + Model.REGISTERS;

    private static final int[] POWERS = {
        0, 0, 1, 2, 62, 63, 64, 65, 200, 8190, 8191, 8192, 16319, 16320, 16380, 16381, 16382, 16383,
        16384, 16385, 16390, 16394, 16395, 16396, 16397, 16398, 16409, 16410, 16440, 16444, 16445,
        16446, 16447, 16448, 16460, 24575, 24576, 32700, 32703, 32704, 32765, 32766, 32767, 32767
    };
    private static final long[] FRACTIONS = {
        0L, 0L, 1L, 2L, 3L, 5L, 7L, 1L << 31, 1L << 32, 1L << 49, 1L << 50, 1L << 61, 1L << 62,
        1L << 63, 1L << 63, (1L << 63) + 1, 3L << 62, 3L << 61, 5L << 61, 7L << 61, -1L, -2L,
        Long.MAX_VALUE, 0xc90fdaa22168c235L
    };
    /** Control words under which all goes on are drawn as often as all others. */
    private static final int ALL_MASKED = 0x3f;

    private final Due due = new Due();
    private long seed = 20261119L;
    private RealSteps steps;
    private Model model;
    private int calls;
    private String last = "a new object";

    public static void main(String[] args) {
        new ModelTest().run();
    }

    private void run() {
        for (int i = 0; i < OBJECTS; i++) {
            steps = new RealSteps();
            model = new Model();
            calls = 0;
            last = "a new object";
            compareAll();
            while (calls + ASKED + 4 <= MOST_CALLS) {
                prepare();
                step();
                compareAll();
            }
        }
        due.end();
    }

    private int draw(int bound) {
        seed = seed * 6364136223846793005L + 1442695040888963407L;
        return (int) ((seed >>> 33) % bound);
    }

    private long drawFraction() {
        long fraction = FRACTIONS[draw(FRACTIONS.length)];
        switch (draw(5)) {
            case 0:
                return fraction + draw(5) - 2;
            case 1:
                return ((long) draw(Integer.MAX_VALUE) << 33) ^ ((long) draw(Integer.MAX_VALUE) << 8) ^ draw(512);
            case 2:
                return fraction >>> draw(64);
            default:
                return fraction;
        }
    }

    /** Sets the control and two registers; half of the time what earlier steps left is gone on with. */
    private void prepare() {
        if (draw(2) == 0) {
            int word = draw(2) == 0 ? draw(0x10000) : draw(0x10000) | ALL_MASKED;
            steps.control(word);
            model.control = word;
            calls++;
        }
        int first = draw(Model.REGISTERS);
        setRegister(first);
        if (draw(2) == 0) {
            setRegister(draw(Model.REGISTERS));
        }
    }

    private void setRegister(int r) {
        int power = draw(4) == 0 ? draw(0x8000) : POWERS[draw(POWERS.length)];
        int top = power + (draw(2) == 0 ? 0 : 0x8000);
        long fraction = drawFraction();
        steps.set(r, top, (int) (fraction >>> 32), (int) fraction);
        model.registers[r] = Model.value(top, fraction);
        calls++;
    }

    private void step() {
        int a = draw(Model.REGISTERS);
        int b = draw(Model.REGISTERS);
        int to = draw(Model.REGISTERS);
        String before = " with " + steps.part(a, 0) + ":" + model.registers[a].fraction().toString(16)
                + " and " + steps.part(b, 0) + ":" + model.registers[b].fraction().toString(16)
                + " control " + Integer.toHexString(model.control);
        calls += 3;
        switch (draw(7)) {
            case 0:
                last = "whole(" + a + ", " + to + ")" + before;
                due.same(last, steps.whole(a, to), model.whole(a, to));
                break;
            case 1:
                last = "scale(" + a + ", " + b + ", " + to + ")" + before;
                due.same(last, steps.scale(a, b, to), model.scale(a, b, to));
                break;
            case 2:
                int other = to == b ? (b + 1) % Model.REGISTERS : b;
                last = "extract(" + a + ", " + other + ", " + to + ")" + before;
                due.same(last, steps.extract(a, other, to), model.extract(a, other, to));
                break;
            case 3:
            case 4:
                last = "remainder(" + a + ", " + b + ", " + to + ")" + before;
                due.same(last, steps.remainder(a, b, to), model.remainder(a, b, to));
                break;
            case 5:
                last = "compare(" + a + ", " + b + ")" + before;
                due.same(last, steps.compare(a, b), model.compare(a, b));
                break;
            default:
                last = "test(" + a + ")" + before;
                due.same(last, steps.test(a), model.test(a));
                break;
        }
    }

    private void compareAll() {
        for (int r = 0; r < Model.REGISTERS; r++) {
            Model.Value value = model.registers[r];
            due.same(last + ": part(" + r + ", 0)", steps.part(r, 0), value.top());
            due.same(last + ": part(" + r + ", 1)", steps.part(r, 1), value.fraction().shiftRight(32).intValue());
            due.same(last + ": part(" + r + ", 2)", steps.part(r, 2), value.fraction().intValue());
            due.same(last + ": examine(" + r + ")", steps.examine(r), model.examine(r));
        }
        due.same(last + ": told(0)", steps.told(0), model.told);
        due.same(last + ": told(1)", steps.told(1), model.answer ? 1 : 0);
        due.same(last + ": told(2)", steps.told(2), model.quotient);
        due.same(last + ": told(3)", steps.told(3), model.partial ? 1 : 0);
        calls += ASKED;
    }
}
