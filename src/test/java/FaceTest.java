import java.lang.reflect.Constructor;
import java.lang.reflect.Field;
import java.lang.reflect.Method;
import java.lang.reflect.Modifier;
import java.util.Arrays;
import java.util.TreeSet;

/** The class has the document's face and no other member that is not private. */
public final class FaceTest {
    private static final String INDEX = " throws java.lang.IndexOutOfBoundsException";
    private static final String ARGUMENT = " throws java.lang.IllegalArgumentException";
    private static final String BOTH = INDEX + ",java.lang.IllegalArgumentException";
    private static final String[] METHODS = {
        "public void RealSteps.control(int)" + ARGUMENT,
        "public void RealSteps.set(int,int,int,int)" + BOTH,
        "public int RealSteps.part(int,int)" + BOTH,
        "public void RealSteps.turn(int,boolean)" + INDEX,
        "public void RealSteps.constant(int,int)" + BOTH,
        "public int RealSteps.whole(int,int)" + INDEX,
        "public int RealSteps.scale(int,int,int)" + INDEX,
        "public int RealSteps.extract(int,int,int)" + BOTH,
        "public int RealSteps.remainder(int,int,int)" + INDEX,
        "public int RealSteps.compare(int,int)" + INDEX,
        "public int RealSteps.test(int)" + INDEX,
        "public int RealSteps.examine(int)" + INDEX,
        "public int RealSteps.told(int)" + ARGUMENT
    };

    public static void main(String[] args) {
        Due due = new Due();
        TreeSet<String> methods = new TreeSet<>();
        for (Method method : RealSteps.class.getDeclaredMethods()) {
            if (!Modifier.isPrivate(method.getModifiers())) {
                methods.add(method.toString());
            }
        }
        TreeSet<String> wanted = new TreeSet<>(Arrays.asList(METHODS));
        same(due, "the methods", methods, wanted);

        TreeSet<String> fields = new TreeSet<>();
        for (Field field : RealSteps.class.getDeclaredFields()) {
            if (!Modifier.isPrivate(field.getModifiers())) {
                fields.add(field.toString());
            }
        }
        TreeSet<String> constants = new TreeSet<>();
        constants.add("public static final int RealSteps.NONE");
        constants.add("public static final int RealSteps.NO_ANSWER");
        same(due, "the constants", fields, constants);

        TreeSet<String> constructors = new TreeSet<>();
        for (Constructor<?> constructor : RealSteps.class.getDeclaredConstructors()) {
            constructors.add(constructor.toString());
        }
        TreeSet<String> oneConstructor = new TreeSet<>();
        oneConstructor.add("public RealSteps()");
        same(due, "the constructors", constructors, oneConstructor);

        int modifiers = Modifier.PUBLIC | Modifier.FINAL;
        due.same("the class's modifiers", RealSteps.class.getModifiers(), modifiers);
        due.same("NONE", RealSteps.NONE, -1);
        due.same("NO_ANSWER", RealSteps.NO_ANSWER, 3);
        due.end();
    }

    private static void same(Due due, String what, TreeSet<String> got, TreeSet<String> want) {
        boolean same = got.equals(want);
        if (!same) {
            System.out.println("got " + got);
        }
        due.same(what, same ? 1 : 0, 1);
    }
}
