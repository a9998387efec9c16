import java.lang.management.ManagementFactory;

/** The dearest runs of 512 calls stay far below the room of 7.3 million fields and elements. */
public final class RoomTests {
    private static final Checks CHECKS = new Checks();
    private static final int CALLS = 512;
    // every field and element of the class takes four bytes; the limit is a half of the room
    private static final long MOST_BYTES = 4L * 7_300_000 / 2;

    private RoomTests() {
    }

    public static void main(String[] args) {
        check("one object, searched again and again", RoomTests::searchAgainAndAgain);
        check("one object, searched after each state", RoomTests::searchAfterEachState);
        check("a new object whenever one was searched with all states", RoomTests::manyObjects);
        check("new objects alone", RoomTests::onlyNewObjects);
        CHECKS.end("RoomTests");
    }

    private static void check(String what, Runnable run) {
        com.sun.management.ThreadMXBean threads =
            (com.sun.management.ThreadMXBean) ManagementFactory.getThreadMXBean();
        long id = Thread.currentThread().getId();
        long before = threads.getThreadAllocatedBytes(id);
        run.run();
        long taken = threads.getThreadAllocatedBytes(id) - before;
        CHECKS.same(what + " takes " + taken + " bytes, within the room", true, taken <= MOST_BYTES);
    }

    private static BoundedMachines allStates() {
        BoundedMachines x = new BoundedMachines(4);
        for (int s = 0; s < 14; s++) {
            x.state(s % 2, false);
        }
        return x;
    }

    private static void searchAgainAndAgain() {
        BoundedMachines x = allStates();
        for (int k = 0; k < 4; k++) {
            x.next(4 + k, k);
        }
        for (int calls = 19; calls < CALLS; calls += 2) {
            x.next(17, calls % 4);
            x.search(20000);
        }
    }

    private static void searchAfterEachState() {
        BoundedMachines x = new BoundedMachines(4);
        for (int s = 0; s < 14; s++) {
            x.state(s % 2, false);
            x.search(20000);
        }
        for (int calls = 29; calls < CALLS; calls++) {
            x.replay();
        }
    }

    private static void manyObjects() {
        for (int calls = 0; calls < CALLS; calls += 16) {
            allStates().search(20000);
        }
    }

    private static void onlyNewObjects() {
        for (int calls = 0; calls < CALLS; calls++) {
            CHECKS.same("a new object", 0, new BoundedMachines(calls).seen());
        }
    }
}
