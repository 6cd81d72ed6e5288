import java.util.Arrays;
import java.util.function.IntSupplier;

/** Comparing answers: each test says which sentence of the document it is for. */
final class Check {
    /** Calls that bring a new object into a state, into the same one whenever they are done. */
    interface Steps {
        void on(PieceText x);
    }

    interface Call {
        int on(PieceText x);
    }

    // A fault that shows everywhere should not bury the log.
    private static final int MOST_TOLD = 60;

    private static int wrong = 0;
    private static String sentence = "";

    private Check() {
    }

    /** Runs the test of a sentence; one that throws where it should not ends there, and the next one is run. */
    static void sentence(String words, Runnable test) {
        sentence = words;
        try {
            test.run();
        } catch (RuntimeException e) {
            tellWrong(e + " at " + Arrays.stream(e.getStackTrace()).limit(4).toList());
        }
    }

    static void due(String what, Object want, Object got) {
        if (!want.equals(got)) {
            tellWrong(what + " answered " + got + ", due is " + want);
        }
    }

    private static void tellWrong(String what) {
        wrong++;
        if (wrong <= MOST_TOLD) {
            System.out.println("\"" + sentence + "\": " + what);
        }
    }

    /** The answer as a text, so that an exception is compared like a number. */
    static String answer(IntSupplier call) {
        try {
            return String.valueOf(call.getAsInt());
        } catch (RuntimeException e) {
            return "throws." + e.getClass().getSimpleName();
        }
    }

    static String answer(PieceText x, Call call) {
        return answer(() -> call.on(x));
    }

    /** In this state the call throws what is due, and nothing is changed behind it. */
    static void refused(String what, Class<? extends RuntimeException> due, Steps state, Call call) {
        String thrown = "throws." + due.getSimpleName();
        due(what, thrown, answer(Given.made(state), call));
        changesNothing(what, state, call);
        due(what + " once more", thrown, answer(Given.made(Given.then(state, call)), call));
    }

    /** All that can be seen of an object in this state is the same with the call and without it. */
    static void changesNothing(String what, Steps state, Call call) {
        due("what stands behind " + what, Look.everything(state), Look.everything(Given.then(state, call)));
    }

    static void end(String test) {
        if (wrong != 0) {
            System.out.println(test + ": " + wrong + " answers are not as due");
            System.exit(1);
        }
    }
}
