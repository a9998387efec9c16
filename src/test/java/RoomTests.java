import java.lang.management.ManagementFactory;
import java.lang.reflect.Field;
import java.lang.reflect.Modifier;
import java.util.function.Consumer;

/** All arrays are made with the object: the calls on it make nothing, and it takes little of the room. */
public final class RoomTests {
    private static final Checks CHECKS = new Checks();
    private static final com.sun.management.ThreadMXBean THREADS =
        (com.sun.management.ThreadMXBean) ManagementFactory.getThreadMXBean();
    private static final int CALLS = 512;
    // every field and element of the class takes four bytes
    private static final long ROOM_BYTES = 4L * 7_300_000;

    private RoomTests() {
    }

    public static void main(String[] args) {
        arraysAreNeverExchanged();
        newObject();
        makesNothing("searched again and again", RoomTests::searchAgainAndAgain);
        makesNothing("searched after each state", RoomTests::searchAfterEachState);
        makesNothing("searched level by level", RoomTests::searchLevelByLevel);
        makesNothing("a program found, asked and run", RoomTests::askAndRun);
        makesNothing("filled with gates and pairs", RoomTests::fill);
        throwing();
        CHECKS.end("RoomTests");
    }

    private static void arraysAreNeverExchanged() {
        int arrays = 0;
        for (Class<?> inside : BoundedMachines.class.getDeclaredClasses()) {
            for (Field field : inside.getDeclaredFields()) {
                if (field.getType().isArray()) {
                    arrays++;
                    CHECKS.same(inside.getSimpleName() + "." + field.getName() + " is final", true,
                        Modifier.isFinal(field.getModifiers()));
                }
            }
        }
        CHECKS.same("there are arrays", true, arrays > 0);
    }

    private static long taken(Runnable run) {
        long before = THREADS.getCurrentThreadAllocatedBytes();
        run.run();
        return THREADS.getCurrentThreadAllocatedBytes() - before;
    }

    private static void newObject() {
        new BoundedMachines(4);
        long bytes = taken(() -> new BoundedMachines(4));
        CHECKS.same("a new object takes " + bytes + " bytes, a hundredth of the room at most", true,
            bytes <= ROOM_BYTES / 100);
    }

    /** The first of both runs loads what the Java machine itself makes when code is run for the first time. */
    private static void makesNothing(String what, Consumer<BoundedMachines> calls) {
        calls.accept(new BoundedMachines(4));
        BoundedMachines x = new BoundedMachines(4);
        Runnable run = () -> calls.accept(x);
        Runnable nothing = () -> { };
        taken(nothing);
        CHECKS.same(what + ": bytes taken by the calls", taken(nothing), taken(run));
    }

    private static void addAllStates(BoundedMachines x) {
        for (int s = 0; s < 14; s++) {
            x.state(s % 2, false);
        }
    }

    private static void searchAgainAndAgain(BoundedMachines x) {
        addAllStates(x);
        for (int s = 0; s < 14; s++) {
            x.next(4 + s, s);
        }
        for (int calls = 28; calls + 2 <= CALLS; calls += 2) {
            x.next(17, calls % 4);
            x.search(20000);
        }
    }

    private static void searchAfterEachState(BoundedMachines x) {
        for (int s = 0; s < 14; s++) {
            int node = x.state(s % 2, false);
            x.next(node, node - 1);
            x.search(20000);
        }
    }

    private static void searchLevelByLevel(BoundedMachines x) {
        addAllStates(x);
        for (int s = 0; s < 14; s++) {
            x.next(4 + s, 3 + s);
        }
        for (int depth = 1; depth + 28 <= CALLS; depth++) {
            x.search(depth);
        }
    }

    private static void askAndRun(BoundedMachines x) {
        int last = 3;
        for (int s = 0; s < 14; s++) {
            int node = x.state(s % 2, false);
            x.next(node, last);
            last = node;
        }
        x.compare(last, x.gate(4, 0, 0));
        x.search(20000);
        for (int k = 0; k < 20; k++) {
            x.replay();
            x.word(k % 15);
            x.level(k % 15);
            x.length();
            x.clear();
            x.seen();
            x.begin();
            x.cycle(k);
            x.truth(k % 19);
            x.count(k % 9);
        }
    }

    private static void fill(BoundedMachines x) {
        for (int node = 4; node < 100; node++) {
            x.gate(node % 6, node - 1, node - 2);
        }
        for (int pair = 0; pair < 16; pair++) {
            x.compare(pair, pair + 1);
        }
    }

    private static void throwing() {
        BoundedMachines x = new BoundedMachines(4);
        long bytes = taken(() -> {
            for (int calls = 0; calls < CALLS; calls++) {
                Checks.outcome(() -> x.search(0));
            }
        });
        CHECKS.same("512 calls that throw take " + bytes + " bytes, a tenth of the room at most", true,
            bytes <= ROOM_BYTES / 10);
    }
}
