/** Counts and prints the answers that are not as due. */
final class Due {
    interface Call {
        void run();
    }

    private String sentence = "";
    private int sentences;
    private int checks;
    private int wrong;

    /** What follows is the test of this sentence of the document; it is printed with what is wrong. */
    void sentence(String text) {
        sentence = "[" + text + "] ";
        sentences++;
    }

    void same(String what, long got, long want) {
        checks++;
        if (got != want) {
            wrong(what + " answered " + got + ", due is " + want);
        }
    }

    void throwsIndex(String what, Call call) {
        throwing(what, IndexOutOfBoundsException.class, call);
    }

    void throwsArgument(String what, Call call) {
        throwing(what, IllegalArgumentException.class, call);
    }

    void throwsNothing(String what, Call call) {
        checks++;
        try {
            call.run();
        } catch (RuntimeException thrown) {
            wrong(what + " threw " + thrown + ", due is nothing");
        }
    }

    /** A test that throws is wrong in the sentence that it had come to; the others go on. */
    void run(Call test) {
        sentence = "";
        try {
            test.run();
        } catch (RuntimeException thrown) {
            wrong("threw " + thrown);
        }
    }

    private void throwing(String what, Class<?> kind, Call call) {
        checks++;
        try {
            call.run();
        } catch (RuntimeException thrown) {
            if (thrown.getClass() != kind) {
                wrong(what + " threw " + thrown + ", due is " + kind.getName());
            }
            return;
        }
        wrong(what + " threw nothing, due is " + kind.getName());
    }

    private void wrong(String text) {
        wrong++;
        System.out.println(sentence + text);
    }

    /** Ends the program, with exit code 1 if an answer was not as due. */
    void end() {
        if (sentences > 0) {
            System.out.print(sentences + " sentences, ");
        }
        System.out.println(checks + " answers looked at, " + wrong + " not as due");
        System.exit(wrong == 0 ? 0 : 1);
    }
}
