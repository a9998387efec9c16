import java.lang.reflect.InvocationTargetException;
import java.lang.reflect.Method;
import java.lang.reflect.Modifier;
import java.util.Arrays;
import java.util.Comparator;
import java.util.Objects;

/** Counts checks for one test program, and tells what an exception is by its exact class. */
final class Checks {
    private int done = 0;
    private int wrong = 0;
    private String test = "";

    interface Call {
        Object answer();
    }

    /** The answer, or the name of the exception: its exact class, so the machine's own subclasses are told apart. */
    static Object outcome(Call call) {
        try {
            return call.answer();
        } catch (RuntimeException e) {
            return "throws." + e.getClass().getSimpleName();
        }
    }

    void due(String what, Object want, Call call) {
        same(what, want, outcome(call));
    }

    void same(String what, Object want, Object got) {
        done++;
        if (!Objects.equals(want, got)) {
            wrong++;
            System.out.println(test + what + " answered " + got + ", due is " + want);
        }
    }

    void throwsArgument(String what, Call call) {
        due(what, "throws.IllegalArgumentException", call);
    }

    void throwsUnsupported(String what, Call call) {
        due(what, "throws.UnsupportedOperationException", call);
    }

    void throwsIndex(String what, Call call) {
        due(what, "throws.IndexOutOfBoundsException", call);
    }

    /**
     * Runs each test of a class by itself, so that one that throws does not hide the others. A test is a method that is
     * not private and takes nothing; its name begins with a part of the document, and each part has a test.
     */
    void runTests(Class<?> tests, String... parts) {
        Method[] methods = tests.getDeclaredMethods();
        Arrays.sort(methods, Comparator.comparing(Method::getName));
        boolean[] tested = new boolean[parts.length];
        for (Method method : methods) {
            if (isTest(method)) {
                int part = partOf(method.getName(), parts);
                same(method.getName() + " is named after a part of the document", true, part >= 0);
                if (part >= 0) {
                    tested[part] = true;
                }
                runTest(method);
            }
        }
        for (int part = 0; part < parts.length; part++) {
            same("a test of " + parts[part], true, tested[part]);
        }
    }

    private static boolean isTest(Method method) {
        boolean hidden = Modifier.isPrivate(method.getModifiers()) || method.isSynthetic();
        return !hidden && method.getParameterCount() == 0;
    }

    private static int partOf(String name, String[] parts) {
        for (int part = 0; part < parts.length; part++) {
            // a capital letter behind it, since promise1 begins promise10 too
            if (name.matches(parts[part] + "[A-Z].*")) {
                return part;
            }
        }
        return -1;
    }

    private void runTest(Method method) {
        int doneBefore = done;
        int wrongBefore = wrong;
        test = method.getName() + ": ";
        try {
            method.invoke(null);
        } catch (InvocationTargetException e) {
            same("the test itself", "its end", e.getCause());
        } catch (IllegalAccessException e) {
            same("the test itself", "open to this class", e);
        }
        same("checks something", true, done > doneBefore);
        if (wrong > wrongBefore) {
            System.out.println("failed: " + method.getName());
        }
        test = "";
    }

    void end(String name) {
        System.out.println(name + ": " + done + " checks, " + wrong + " wrong");
        if (wrong != 0 || done == 0) {
            System.exit(1);
        }
    }
}
