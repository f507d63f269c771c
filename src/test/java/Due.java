/** Counts and prints the answers that are not as due. */
final class Due {
    interface Call {
        void run();
    }

    private int checks;
    private int wrong;

    void same(String what, long got, long want) {
        checks++;
        if (got != want) {
            wrong++;
            System.out.println(what + " answered " + got + ", due is " + want);
        }
    }

    void throwsIndex(String what, Call call) {
        throwing(what, IndexOutOfBoundsException.class, call);
    }

    void throwsArgument(String what, Call call) {
        throwing(what, IllegalArgumentException.class, call);
    }

    private void throwing(String what, Class<?> kind, Call call) {
        checks++;
        try {
            call.run();
        } catch (RuntimeException thrown) {
            if (thrown.getClass() == kind) {
                return;
            }
            wrong++;
            System.out.println(what + " threw " + thrown + ", due is " + kind.getName());
            return;
        }
        wrong++;
        System.out.println(what + " threw nothing, due is " + kind.getName());
    }

    /** Ends the program, with exit code 1 if an answer was not as due. */
    void end() {
        System.out.println(checks + " answers looked at, " + wrong + " not as due");
        System.exit(wrong == 0 ? 0 : 1);
    }
}
