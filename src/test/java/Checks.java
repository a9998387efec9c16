import java.util.Objects;

/** Counts checks for one test program, and tells what an exception is by its exact class. */
final class Checks {
    private int done = 0;
    private int wrong = 0;

    interface Call {
        Object answer();
    }

    /** The answer, or the name of the exception: its exact class, so the machine's own subclasses are told apart. */
    static Object outcome(Call call) {
        try {
            return call.answer();
        } catch (RuntimeException e) {
            return "throws." + e.getClass().getSimpleName();
        }
    }

    void due(String what, Object want, Call call) {
        same(what, want, outcome(call));
    }

    void same(String what, Object want, Object got) {
        done++;
        if (!Objects.equals(want, got)) {
            wrong++;
            System.out.println(what + " answered " + got + ", due is " + want);
        }
    }

    void throwsArgument(String what, Call call) {
        due(what, "throws.IllegalArgumentException", call);
    }

    void throwsUnsupported(String what, Call call) {
        due(what, "throws.UnsupportedOperationException", call);
    }

    void throwsIndex(String what, Call call) {
        due(what, "throws.IndexOutOfBoundsException", call);
    }

    void end(String name) {
        System.out.println(name + ": " + done + " checks, " + wrong + " wrong");
        if (wrong != 0 || done == 0) {
            System.exit(1);
        }
    }
}
